theorem dX6_begin_15 : decode cX6_begin 15 = .ok (.aload_n 0, 1) := by decide +kernel
theorem dX6_begin_16 : decode cX6_begin 16 = .ok (.getfield 33, 3) := by decide +kernel
theorem dX6_begin_19 : decode cX6_begin 19 = .ok (.getfield 44, 3) := by decide +kernel
theorem dX6_begin_22 : decode cX6_begin 22 = .ok (.putfield 18, 3) := by decide +kernel
theorem dX6_begin_25 : decode cX6_begin 25 = .ok (.aload_n 0, 1) := by decide +kernel
theorem dX6_begin_26 : decode cX6_begin 26 = .ok (.iconst 0, 1) := by decide +kernel
theorem dX6_begin_27 : decode cX6_begin 27 = .ok (.putfield 22, 3) := by decide +kernel
theorem dX6_begin_30 : decode cX6_begin 30 = .ok (.aload_n 0, 1) := by decide +kernel
theorem dX6_begin_31 : decode cX6_begin 31 = .ok (.getfield 33, 3) := by decide +kernel
theorem dX6_begin_34 : decode cX6_begin 34 = .ok (.getfield 45, 3) := by decide +kernel
theorem dX6_begin_37 : decode cX6_begin 37 = .ok (.iconst 0, 1) := by decide +kernel
theorem dX6_begin_38 : decode cX6_begin 38 = .ok (.aload_n 0, 1) := by decide +kernel
theorem dX6_begin_39 : decode cX6_begin 39 = .ok (.getfield 26, 3) := by decide +kernel
theorem dX6_begin_42 : decode cX6_begin 42 = .ok (.iconst 0, 1) := by decide +kernel
theorem dX6_begin_43 : decode cX6_begin 43 = .ok (.iconst 3, 1) := by decide +kernel
theorem dX6_begin_44 : decode cX6_begin 44 = .ok (.invokestatic 46, 3) := by decide +kernel
theorem dX6_begin_47 : decode cX6_begin 47 = .ok (.return_, 1) := by decide +kernel
theorem dX6_beginAs_0 : decode cX6_beginAs 0 = .ok (.aload_n 0, 1) := by decide +kernel
theorem dX6_beginAs_1 : decode cX6_beginAs 1 = .ok (.invokevirtual 52, 3) := by decide +kernel
theorem dX6_beginAs_4 : decode cX6_beginAs 4 = .ok (.aload_n 0, 1) := by decide +kernel
theorem dX6_beginAs_5 : decode cX6_beginAs 5 = .ok (.getfield 18, 3) := by decide +kernel
theorem dX6_beginAs_8 : decode cX6_beginAs 8 = .ok (.ifCond .ne 39, 3) := by decide +kernel
theorem dX6_beginAs_11 : decode cX6_beginAs 11 = .ok (.aload_n 0, 1) := by decide +kernel
theorem dX6_beginAs_12 : decode cX6_beginAs 12 = .ok (.invokevirtual 55, 3) := by decide +kernel
theorem dX6_beginAs_15 : decode cX6_beginAs 15 = .ok (.ifCond .eq 32, 3) := by decide +kernel
theorem dX6_beginAs_18 : decode cX6_beginAs 18 = .ok (.aload_n 0, 1) := by decide +kernel
theorem dX6_beginAs_19 : decode cX6_beginAs 19 = .ok (.getfield 12, 3) := by decide +kernel
theorem dX6_beginAs_22 : decode cX6_beginAs 22 = .ok (.iload_n 1, 1) := by decide +kernel
theorem dX6_beginAs_23 : decode cX6_beginAs 23 = .ok (.aload_n 0, 1) := by decide +kernel
theorem dX6_beginAs_24 : decode cX6_beginAs 24 = .ok (.getfield 12, 3) := by decide +kernel
theorem dX6_beginAs_27 : decode cX6_beginAs 27 = .ok (.getfield 59, 3) := by decide +kernel
theorem dX6_beginAs_30 : decode cX6_beginAs 30 = .ok (.aload_n 0, 1) := by decide +kernel
theorem dX6_beginAs_31 : decode cX6_beginAs 31 = .ok (.getfield 12, 3) := by decide +kernel
theorem dX6_beginAs_34 : decode cX6_beginAs 34 = .ok (.getfield 62, 3) := by decide +kernel
theorem dX6_beginAs_37 : decode cX6_beginAs 37 = .ok (.aload_n 0, 1) := by decide +kernel
theorem dX6_beginAs_38 : decode cX6_beginAs 38 = .ok (.getfield 12, 3) := by decide +kernel
theorem dX6_beginAs_41 : decode cX6_beginAs 41 = .ok (.getfield 65, 3) := by decide +kernel
theorem dX6_beginAs_44 : decode cX6_beginAs 44 = .ok (.invokevirtual 68, 3) := by decide +kernel
theorem dX6_beginAs_47 : decode cX6_beginAs 47 = .ok (.return_, 1) := by decide +kernel
theorem dX6_takeNext_0 : decode cX6_takeNext 0 = .ok (.aload_n 0, 1) := by decide +kernel
theorem dX6_takeNext_1 : decode cX6_takeNext 1 = .ok (.getfield 22, 3) := by decide +kernel
theorem dX6_takeNext_4 : decode cX6_takeNext 4 = .ok (.aload_n 0, 1) := by decide +kernel
theorem dX6_takeNext_5 : decode cX6_takeNext 5 = .ok (.getfield 33, 3) := by decide +kernel
theorem dX6_takeNext_8 : decode cX6_takeNext 8 = .ok (.getfield 72, 3) := by decide +kernel
theorem dX6_takeNext_11 : decode cX6_takeNext 11 = .ok (.if_icmp .lt 5, 3) := by decide +kernel
theorem dX6_takeNext_14 : decode cX6_takeNext 14 = .ok (.iconst 0, 1) := by decide +kernel
theorem dX6_takeNext_15 : decode cX6_takeNext 15 = .ok (.ireturn, 1) := by decide +kernel
theorem dX6_takeNext_16 : decode cX6_takeNext 16 = .ok (.aload_n 0, 1) := by decide +kernel
theorem dX6_takeNext_17 : decode cX6_takeNext 17 = .ok (.getfield 12, 3) := by decide +kernel
theorem dX6_takeNext_20 : decode cX6_takeNext 20 = .ok (.aload_n 0, 1) := by decide +kernel
theorem dX6_takeNext_21 : decode cX6_takeNext 21 = .ok (.getfield 33, 3) := by decide +kernel
theorem dX6_takeNext_24 : decode cX6_takeNext 24 = .ok (.getfield 75, 3) := by decide +kernel
theorem dX6_takeNext_27 : decode cX6_takeNext 27 = .ok (.aload_n 0, 1) := by decide +kernel
theorem dX6_takeNext_28 : decode cX6_takeNext 28 = .ok (.getfield 22, 3) := by decide +kernel
theorem dX6_takeNext_31 : decode cX6_takeNext 31 = .ok (.aaload, 1) := by decide +kernel
theorem dX6_takeNext_32 : decode cX6_takeNext 32 = .ok (.invokevirtual 40, 3) := by decide +kernel
theorem dX6_takeNext_35 : decode cX6_takeNext 35 = .ok (.aload_n 0, 1) := by decide +kernel
theorem dX6_takeNext_36 : decode cX6_takeNext 36 = .ok (.dup, 1) := by decide +kernel
theorem dX6_takeNext_37 : decode cX6_takeNext 37 = .ok (.getfield 22, 3) := by decide +kernel
theorem dX6_takeNext_40 : decode cX6_takeNext 40 = .ok (.iconst 1, 1) := by decide +kernel
theorem dX6_takeNext_41 : decode cX6_takeNext 41 = .ok (.iadd, 1) := by decide +kernel
theorem dX6_takeNext_42 : decode cX6_takeNext 42 = .ok (.putfield 22, 3) := by decide +kernel
theorem dX6_takeNext_45 : decode cX6_takeNext 45 = .ok (.aload_n 0, 1) := by decide +kernel
theorem dX6_takeNext_46 : decode cX6_takeNext 46 = .ok (.iconst 1, 1) := by decide +kernel
theorem dX6_takeNext_47 : decode cX6_takeNext 47 = .ok (.putfield 18, 3) := by decide +kernel
theorem dX6_takeNext_50 : decode cX6_takeNext 50 = .ok (.iconst 1, 1) := by decide +kernel
theorem dX6_takeNext_51 : decode cX6_takeNext 51 = .ok (.ireturn, 1) := by decide +kernel
theorem dX6_advance_0 : decode cX6_advance 0 = .ok (.aload_n 0, 1) := by decide +kernel
theorem dX6_advance_1 : decode cX6_advance 1 = .ok (.getfield 18, 3) := by decide +kernel
theorem dX6_advance_4 : decode cX6_advance 4 = .ok (.ifCond .ne 12, 3) := by decide +kernel
theorem dX6_advance_7 : decode cX6_advance 7 = .ok (.aload_n 0, 1) := by decide +kernel
theorem dX6_advance_8 : decode cX6_advance 8 = .ok (.invokevirtual 55, 3) := by decide +kernel
theorem dX6_advance_11 : decode cX6_advance 11 = .ok (.ifCond .ne 5, 3) := by decide +kernel
theorem dX6_advance_14 : decode cX6_advance 14 = .ok (.iconst 0, 1) := by decide +kernel
theorem dX6_advance_15 : decode cX6_advance 15 = .ok (.ireturn, 1) := by decide +kernel
theorem dX6_advance_16 : decode cX6_advance 16 = .ok (.aload_n 0, 1) := by decide +kernel
theorem dX6_advance_17 : decode cX6_advance 17 = .ok (.getfield 12, 3) := by decide +kernel
theorem dX6_advance_20 : decode cX6_advance 20 = .ok (.aload_n 0, 1) := by decide +kernel
theorem dX6_advance_21 : decode cX6_advance 21 = .ok (.getfield 30, 3) := by decide +kernel
theorem dX6_advance_24 : decode cX6_advance 24 = .ok (.invokevirtual 79, 3) := by decide +kernel
theorem dX6_advance_27 : decode cX6_advance 27 = .ok (.iconst 0, 1) := by decide +kernel
theorem dX6_advance_28 : decode cX6_advance 28 = .ok (.istore_n 1, 1) := by decide +kernel
theorem dX6_advance_29 : decode cX6_advance 29 = .ok (.iload_n 1, 1) := by decide +kernel
theorem dX6_advance_30 : decode cX6_advance 30 = .ok (.iconst 3, 1) := by decide +kernel
theorem dX6_advance_31 : decode cX6_advance 31 = .ok (.if_icmp .ge 24, 3) := by decide +kernel
theorem dX6_advance_34 : decode cX6_advance 34 = .ok (.aload_n 0, 1) := by decide +kernel
theorem dX6_advance_35 : decode cX6_advance 35 = .ok (.getfield 26, 3) := by decide +kernel
theorem dX6_advance_38 : decode cX6_advance 38 = .ok (.iload_n 1, 1) := by decide +kernel
theorem dX6_advance_39 : decode cX6_advance 39 = .ok (.dup2, 1) := by decide +kernel
theorem dX6_advance_40 : decode cX6_advance 40 = .ok (.iaload, 1) := by decide +kernel
theorem dX6_advance_41 : decode cX6_advance 41 = .ok (.aload_n 0, 1) := by decide +kernel
theorem dX6_advance_42 : decode cX6_advance 42 = .ok (.getfield 30, 3) := by decide +kernel
theorem dX6_advance_45 : decode cX6_advance 45 = .ok (.iload_n 1, 1) := by decide +kernel
theorem dX6_advance_46 : decode cX6_advance 46 = .ok (.iaload, 1) := by decide +kernel
theorem dX6_advance_47 : decode cX6_advance 47 = .ok (.iadd, 1) := by decide +kernel
theorem dX6_advance_48 : decode cX6_advance 48 = .ok (.iastore, 1) := by decide +kernel
theorem dX6_advance_49 : decode cX6_advance 49 = .ok (.iinc 1 1, 3) := by decide +kernel
theorem dX6_advance_52 : decode cX6_advance 52 = .ok (.goto (-23), 3) := by decide +kernel
theorem dX6_advance_55 : decode cX6_advance 55 = .ok (.aload_n 0, 1) := by decide +kernel
theorem dX6_advance_56 : decode cX6_advance 56 = .ok (.aload_n 0, 1) := by decide +kernel
theorem dX6_advance_57 : decode cX6_advance 57 = .ok (.getfield 12, 3) := by decide +kernel
theorem dX6_advance_60 : decode cX6_advance 60 = .ok (.invokevirtual 83, 3) := by decide +kernel
theorem dX6_advance_63 : decode cX6_advance 63 = .ok (.ifCond .le 7, 3) := by decide +kernel
theorem dX6_advance_66 : decode cX6_advance 66 = .ok (.iconst 1, 1) := by decide +kernel
theorem dX6_advance_67 : decode cX6_advance 67 = .ok (.goto 4, 3) := by decide +kernel
theorem dX6_advance_70 : decode cX6_advance 70 = .ok (.iconst 0, 1) := by decide +kernel
theorem dX6_advance_71 : decode cX6_advance 71 = .ok (.putfield 18, 3) := by decide +kernel
theorem dX6_advance_74 : decode cX6_advance 74 = .ok (.iconst 1, 1) := by decide +kernel
theorem dX6_advance_75 : decode cX6_advance 75 = .ok (.ireturn, 1) := by decide +kernel
theorem dX6_settle_0 : decode cX6_settle 0 = .ok (.aload_n 0, 1) := by decide +kernel
theorem dX6_settle_1 : decode cX6_settle 1 = .ok (.getfield 33, 3) := by decide +kernel
theorem dX6_settle_4 : decode cX6_settle 4 = .ok (.getfield 37, 3) := by decide +kernel
theorem dX6_settle_7 : decode cX6_settle 7 = .ok (.aload_n 0, 1) := by decide +kernel
theorem dX6_settle_8 : decode cX6_settle 8 = .ok (.getfield 12, 3) := by decide +kernel
theorem dX6_settle_11 : decode cX6_settle 11 = .ok (.invokevirtual 40, 3) := by decide +kernel
theorem dX6_settle_14 : decode cX6_settle 14 = .ok (.aload_n 0, 1) := by decide +kernel
theorem dX6_settle_15 : decode cX6_settle 15 = .ok (.getfield 33, 3) := by decide +kernel
theorem dX6_settle_18 : decode cX6_settle 18 = .ok (.aload_n 0, 1) := by decide +kernel
theorem dX6_settle_19 : decode cX6_settle 19 = .ok (.getfield 18, 3) := by decide +kernel
theorem dX6_settle_22 : decode cX6_settle 22 = .ok (.putfield 44, 3) := by decide +kernel
theorem dX6_settle_25 : decode cX6_settle 25 = .ok (.aload_n 0, 1) := by decide +kernel
theorem dX6_settle_26 : decode cX6_settle 26 = .ok (.getfield 26, 3) := by decide +kernel
theorem dX6_settle_29 : decode cX6_settle 29 = .ok (.iconst 0, 1) := by decide +kernel
theorem dX6_settle_30 : decode cX6_settle 30 = .ok (.aload_n 0, 1) := by decide +kernel
theorem dX6_settle_31 : decode cX6_settle 31 = .ok (.getfield 33, 3) := by decide +kernel
theorem dX6_settle_34 : decode cX6_settle 34 = .ok (.getfield 45, 3) := by decide +kernel
theorem dX6_settle_37 : decode cX6_settle 37 = .ok (.iconst 0, 1) := by decide +kernel
theorem dX6_settle_38 : decode cX6_settle 38 = .ok (.iconst 3, 1) := by decide +kernel
theorem dX6_settle_39 : decode cX6_settle 39 = .ok (.invokestatic 46, 3) := by decide +kernel
theorem dX6_settle_42 : decode cX6_settle 42 = .ok (.iconst 0, 1) := by decide +kernel
theorem dX6_settle_43 : decode cX6_settle 43 = .ok (.istore_n 1, 1) := by decide +kernel
theorem dX6_settle_44 : decode cX6_settle 44 = .ok (.iload_n 1, 1) := by decide +kernel
theorem dX6_settle_45 : decode cX6_settle 45 = .ok (.aload_n 0, 1) := by decide +kernel
theorem dX6_settle_46 : decode cX6_settle 46 = .ok (.getfield 22, 3) := by decide +kernel
theorem dX6_settle_49 : decode cX6_settle 49 = .ok (.if_icmp .ge 17, 3) := by decide +kernel
theorem dX6_settle_52 : decode cX6_settle 52 = .ok (.aload_n 0, 1) := by decide +kernel
theorem dX6_settle_53 : decode cX6_settle 53 = .ok (.getfield 33, 3) := by decide +kernel
theorem dX6_settle_56 : decode cX6_settle 56 = .ok (.iconst 0, 1) := by decide +kernel
theorem dX6_settle_57 : decode cX6_settle 57 = .ok (.invokevirtual 87, 3) := by decide +kernel
theorem dX6_settle_60 : decode cX6_settle 60 = .ok (.iinc 1 1, 3) := by decide +kernel
theorem dX6_settle_63 : decode cX6_settle 63 = .ok (.goto (-19), 3) := by decide +kernel
theorem dX6_settle_66 : decode cX6_settle 66 = .ok (.aload_n 0, 1) := by decide +kernel
theorem dX6_settle_67 : decode cX6_settle 67 = .ok (.iconst 0, 1) := by decide +kernel
theorem dX6_settle_68 : decode cX6_settle 68 = .ok (.putfield 22, 3) := by decide +kernel
theorem dX6_settle_71 : decode cX6_settle 71 = .ok (.return_, 1) := by decide +kernel
theorem dX7_init_0 : decode cX7_init 0 = .ok (.aload_n 0, 1) := by decide +kernel
theorem dX7_init_1 : decode cX7_init 1 = .ok (.invokespecial 3, 3) := by decide +kernel
theorem dX7_init_4 : decode cX7_init 4 = .ok (.aload_n 0, 1) := by decide +kernel
theorem dX7_init_5 : decode cX7_init 5 = .ok (.new 9, 3) := by decide +kernel
theorem dX7_init_8 : decode cX7_init 8 = .ok (.dup, 1) := by decide +kernel
theorem dX7_init_9 : decode cX7_init 9 = .ok (.invokespecial 11, 3) := by decide +kernel
theorem dX7_init_12 : decode cX7_init 12 = .ok (.putfield 12, 3) := by decide +kernel
theorem dX7_init_15 : decode cX7_init 15 = .ok (.aload_n 0, 1) := by decide +kernel
theorem dX7_init_16 : decode cX7_init 16 = .ok (.new 16, 3) := by decide +kernel
theorem dX7_init_19 : decode cX7_init 19 = .ok (.dup, 1) := by decide +kernel
theorem dX7_init_20 : decode cX7_init 20 = .ok (.invokespecial 18, 3) := by decide +kernel
theorem dX7_init_23 : decode cX7_init 23 = .ok (.putfield 19, 3) := by decide +kernel
theorem dX7_init_26 : decode cX7_init 26 = .ok (.aload_n 0, 1) := by decide +kernel
theorem dX7_init_27 : decode cX7_init 27 = .ok (.new 23, 3) := by decide +kernel
theorem dX7_init_30 : decode cX7_init 30 = .ok (.dup, 1) := by decide +kernel
theorem dX7_init_31 : decode cX7_init 31 = .ok (.aload_n 0, 1) := by decide +kernel
theorem dX7_init_32 : decode cX7_init 32 = .ok (.getfield 12, 3) := by decide +kernel
theorem dX7_init_35 : decode cX7_init 35 = .ok (.invokespecial 25, 3) := by decide +kernel
theorem dX7_init_38 : decode cX7_init 38 = .ok (.putfield 28, 3) := by decide +kernel
theorem dX7_init_41 : decode cX7_init 41 = .ok (.aload_n 0, 1) := by decide +kernel
theorem dX7_init_42 : decode cX7_init 42 = .ok (.new 32, 3) := by decide +kernel
theorem dX7_init_45 : decode cX7_init 45 = .ok (.dup, 1) := by decide +kernel
theorem dX7_init_46 : decode cX7_init 46 = .ok (.invokespecial 34, 3) := by decide +kernel
theorem dX7_init_49 : decode cX7_init 49 = .ok (.putfield 35, 3) := by decide +kernel
theorem dX7_init_52 : decode cX7_init 52 = .ok (.aload_n 0, 1) := by decide +kernel
theorem dX7_init_53 : decode cX7_init 53 = .ok (.iconst 4, 1) := by decide +kernel
theorem dX7_init_54 : decode cX7_init 54 = .ok (.anewarray 39, 3) := by decide +kernel
theorem dX7_init_57 : decode cX7_init 57 = .ok (.putfield 41, 3) := by decide +kernel
theorem dX7_init_60 : decode cX7_init 60 = .ok (.aload_n 0, 1) := by decide +kernel
theorem dX7_init_61 : decode cX7_init 61 = .ok (.bipush 18, 2) := by decide +kernel
theorem dX7_init_63 : decode cX7_init 63 = .ok (.newarray .int, 2) := by decide +kernel
theorem dX7_init_65 : decode cX7_init 65 = .ok (.putfield 45, 3) := by decide +kernel
theorem dX7_init_68 : decode cX7_init 68 = .ok (.aload_n 0, 1) := by decide +kernel
theorem dX7_init_69 : decode cX7_init 69 = .ok (.new 9, 3) := by decide +kernel
theorem dX7_init_72 : decode cX7_init 72 = .ok (.dup, 1) := by decide +kernel
theorem dX7_init_73 : decode cX7_init 73 = .ok (.invokespecial 11, 3) := by decide +kernel
theorem dX7_init_76 : decode cX7_init 76 = .ok (.putfield 49, 3) := by decide +kernel
theorem dX7_init_79 : decode cX7_init 79 = .ok (.aload_n 0, 1) := by decide +kernel
theorem dX7_init_80 : decode cX7_init 80 = .ok (.new 16, 3) := by decide +kernel
theorem dX7_init_83 : decode cX7_init 83 = .ok (.dup, 1) := by decide +kernel
theorem dX7_init_84 : decode cX7_init 84 = .ok (.invokespecial 18, 3) := by decide +kernel
theorem dX7_init_87 : decode cX7_init 87 = .ok (.putfield 52, 3) := by decide +kernel
theorem dX7_init_90 : decode cX7_init 90 = .ok (.aload_n 0, 1) := by decide +kernel
theorem dX7_init_91 : decode cX7_init 91 = .ok (.iconst 0, 1) := by decide +kernel
theorem dX7_init_92 : decode cX7_init 92 = .ok (.putfield 55, 3) := by decide +kernel
theorem dX7_init_95 : decode cX7_init 95 = .ok (.iconst 0, 1) := by decide +kernel
theorem dX7_init_96 : decode cX7_init 96 = .ok (.istore_n 1, 1) := by decide +kernel
theorem dX7_init_97 : decode cX7_init 97 = .ok (.iload_n 1, 1) := by decide +kernel
theorem dX7_init_98 : decode cX7_init 98 = .ok (.iconst 4, 1) := by decide +kernel
theorem dX7_init_99 : decode cX7_init 99 = .ok (.if_icmp .ge 22, 3) := by decide +kernel
theorem dX7_init_102 : decode cX7_init 102 = .ok (.aload_n 0, 1) := by decide +kernel
theorem dX7_init_103 : decode cX7_init 103 = .ok (.getfield 41, 3) := by decide +kernel
theorem dX7_init_106 : decode cX7_init 106 = .ok (.iload_n 1, 1) := by decide +kernel
theorem dX7_init_107 : decode cX7_init 107 = .ok (.new 39, 3) := by decide +kernel
theorem dX7_init_110 : decode cX7_init 110 = .ok (.dup, 1) := by decide +kernel
theorem dX7_init_111 : decode cX7_init 111 = .ok (.invokespecial 59, 3) := by decide +kernel
theorem dX7_init_114 : decode cX7_init 114 = .ok (.aastore, 1) := by decide +kernel
theorem dX7_init_115 : decode cX7_init 115 = .ok (.iinc 1 1, 3) := by decide +kernel
theorem dX7_init_118 : decode cX7_init 118 = .ok (.goto (-21), 3) := by decide +kernel
theorem dX7_init_121 : decode cX7_init 121 = .ok (.return_, 1) := by decide +kernel
theorem dX7_place_0 : decode cX7_place 0 = .ok (.iload_n 1, 1) := by decide +kernel
theorem dX7_place_1 : decode cX7_place 1 = .ok (.invokestatic 60, 3) := by decide +kernel
theorem dX7_place_4 : decode cX7_place 4 = .ok (.ifCond .ne 6, 3) := by decide +kernel
theorem dX7_place_7 : decode cX7_place 7 = .ok (.ldc 64, 2) := by decide +kernel
theorem dX7_place_9 : decode cX7_place 9 = .ok (.ireturn, 1) := by decide +kernel
theorem dX7_place_10 : decode cX7_place 10 = .ok (.aload_n 0, 1) := by decide +kernel
theorem dX7_place_11 : decode cX7_place 11 = .ok (.getfield 12, 3) := by decide +kernel
theorem dX7_place_14 : decode cX7_place 14 = .ok (.getfield 65, 3) := by decide +kernel
theorem dX7_place_17 : decode cX7_place 17 = .ok (.iload_n 1, 1) := by decide +kernel
theorem dX7_place_18 : decode cX7_place 18 = .ok (.iaload, 1) := by decide +kernel
theorem dX7_place_19 : decode cX7_place 19 = .ok (.ireturn, 1) := by decide +kernel
theorem dX7_piece_0 : decode cX7_piece 0 = .ok (.iload_n 1, 1) := by decide +kernel
theorem dX7_piece_1 : decode cX7_piece 1 = .ok (.iconst (-1), 1) := by decide +kernel
theorem dX7_piece_2 : decode cX7_piece 2 = .ok (.if_icmp .lt 23, 3) := by decide +kernel
theorem dX7_piece_5 : decode cX7_piece 5 = .ok (.iload_n 1, 1) := by decide +kernel
theorem dX7_piece_6 : decode cX7_piece 6 = .ok (.aload_n 0, 1) := by decide +kernel
theorem dX7_piece_7 : decode cX7_piece 7 = .ok (.getfield 12, 3) := by decide +kernel
theorem dX7_piece_10 : decode cX7_piece 10 = .ok (.getfield 68, 3) := by decide +kernel
theorem dX7_piece_13 : decode cX7_piece 13 = .ok (.if_icmp .ge 12, 3) := by decide +kernel
theorem dX7_piece_16 : decode cX7_piece 16 = .ok (.iload_n 2, 1) := by decide +kernel
theorem dX7_piece_17 : decode cX7_piece 17 = .ok (.ifCond .lt 8, 3) := by decide +kernel
theorem dX7_piece_20 : decode cX7_piece 20 = .ok (.iload_n 2, 1) := by decide +kernel
theorem dX7_piece_21 : decode cX7_piece 21 = .ok (.iconst 4, 1) := by decide +kernel
theorem dX7_piece_22 : decode cX7_piece 22 = .ok (.if_icmp .le 6, 3) := by decide +kernel
theorem dX7_piece_25 : decode cX7_piece 25 = .ok (.ldc 64, 2) := by decide +kernel
theorem dX7_piece_27 : decode cX7_piece 27 = .ok (.ireturn, 1) := by decide +kernel
theorem dX7_piece_28 : decode cX7_piece 28 = .ok (.iload_n 1, 1) := by decide +kernel
theorem dX7_piece_29 : decode cX7_piece 29 = .ok (.ifCond .lt 17, 3) := by decide +kernel
theorem dX7_piece_32 : decode cX7_piece 32 = .ok (.aload_n 0, 1) := by decide +kernel
theorem dX7_piece_33 : decode cX7_piece 33 = .ok (.getfield 12, 3) := by decide +kernel
theorem dX7_piece_36 : decode cX7_piece 36 = .ok (.getfield 72, 3) := by decide +kernel
theorem dX7_piece_39 : decode cX7_piece 39 = .ok (.iload_n 1, 1) := by decide +kernel
theorem dX7_piece_40 : decode cX7_piece 40 = .ok (.aaload, 1) := by decide +kernel
theorem dX7_piece_41 : decode cX7_piece 41 = .ok (.iload_n 2, 1) := by decide +kernel
theorem dX7_piece_42 : decode cX7_piece 42 = .ok (.invokestatic 76, 3) := by decide +kernel
theorem dX7_piece_45 : decode cX7_piece 45 = .ok (.ireturn, 1) := by decide +kernel
theorem dX7_piece_46 : decode cX7_piece 46 = .ok (.aload_n 0, 1) := by decide +kernel
theorem dX7_piece_47 : decode cX7_piece 47 = .ok (.getfield 12, 3) := by decide +kernel
theorem dX7_piece_50 : decode cX7_piece 50 = .ok (.getfield 80, 3) := by decide +kernel
theorem dX7_piece_53 : decode cX7_piece 53 = .ok (.ifCond .eq 17, 3) := by decide +kernel
theorem dX7_piece_56 : decode cX7_piece 56 = .ok (.aload_n 0, 1) := by decide +kernel
theorem dX7_piece_57 : decode cX7_piece 57 = .ok (.getfield 12, 3) := by decide +kernel
theorem dX7_piece_60 : decode cX7_piece 60 = .ok (.getfield 83, 3) := by decide +kernel
theorem dX7_piece_63 : decode cX7_piece 63 = .ok (.iload_n 2, 1) := by decide +kernel
theorem dX7_piece_64 : decode cX7_piece 64 = .ok (.invokestatic 76, 3) := by decide +kernel
theorem dX7_piece_67 : decode cX7_piece 67 = .ok (.goto 5, 3) := by decide +kernel
theorem dX7_piece_70 : decode cX7_piece 70 = .ok (.ldc 87, 2) := by decide +kernel
theorem dX7_piece_72 : decode cX7_piece 72 = .ok (.ireturn, 1) := by decide +kernel
theorem dX7_type_0 : decode cX7_type 0 = .ok (.iload_n 1, 1) := by decide +kernel
theorem dX7_type_1 : decode cX7_type 1 = .ok (.bipush 32, 2) := by decide +kernel
theorem dX7_type_3 : decode cX7_type 3 = .ok (.if_icmp .lt 9, 3) := by decide +kernel
theorem dX7_type_6 : decode cX7_type 6 = .ok (.iload_n 1, 1) := by decide +kernel
theorem dX7_type_7 : decode cX7_type 7 = .ok (.bipush 126, 2) := by decide +kernel
theorem dX7_type_9 : decode cX7_type 9 = .ok (.if_icmp .le 6, 3) := by decide +kernel
theorem dX7_type_12 : decode cX7_type 12 = .ok (.ldc 64, 2) := by decide +kernel
theorem dX7_type_14 : decode cX7_type 14 = .ok (.ireturn, 1) := by decide +kernel
theorem dX7_type_15 : decode cX7_type 15 = .ok (.aload_n 0, 1) := by decide +kernel
theorem dX7_type_16 : decode cX7_type 16 = .ok (.getfield 35, 3) := by decide +kernel
theorem dX7_type_19 : decode cX7_type 19 = .ok (.iload_n 1, 1) := by decide +kernel
theorem dX7_type_20 : decode cX7_type 20 = .ok (.i2c, 1) := by decide +kernel
theorem dX7_type_21 : decode cX7_type 21 = .ok (.invokevirtual 88, 3) := by decide +kernel
theorem dX7_type_24 : decode cX7_type 24 = .ok (.ifCond .eq 13, 3) := by decide +kernel
theorem dX7_type_27 : decode cX7_type 27 = .ok (.aload_n 0, 1) := by decide +kernel
theorem dX7_type_28 : decode cX7_type 28 = .ok (.getfield 35, 3) := by decide +kernel
theorem dX7_type_31 : decode cX7_type 31 = .ok (.getfield 92, 3) := by decide +kernel
theorem dX7_type_34 : decode cX7_type 34 = .ok (.goto 5, 3) := by decide +kernel
theorem dX7_type_37 : decode cX7_type 37 = .ok (.ldc 95, 2) := by decide +kernel
theorem dX7_type_39 : decode cX7_type 39 = .ok (.ireturn, 1) := by decide +kernel
theorem dX7_plan_0 : decode cX7_plan 0 = .ok (.aload_n 0, 1) := by decide +kernel
theorem dX7_plan_1 : decode cX7_plan 1 = .ok (.getfield 35, 3) := by decide +kernel
theorem dX7_plan_4 : decode cX7_plan 4 = .ok (.invokevirtual 96, 3) := by decide +kernel
theorem dX7_plan_7 : decode cX7_plan 7 = .ok (.istore_n 1, 1) := by decide +kernel
theorem dX7_plan_8 : decode cX7_plan 8 = .ok (.aload_n 0, 1) := by decide +kernel
theorem dX7_plan_9 : decode cX7_plan 9 = .ok (.getfield 35, 3) := by decide +kernel
theorem dX7_plan_12 : decode cX7_plan 12 = .ok (.getfield 100, 3) := by decide +kernel
theorem dX7_plan_15 : decode cX7_plan 15 = .ok (.istore_n 2, 1) := by decide +kernel
theorem dX7_plan_16 : decode cX7_plan 16 = .ok (.aload_n 0, 1) := by decide +kernel
theorem dX7_plan_17 : decode cX7_plan 17 = .ok (.getfield 35, 3) := by decide +kernel
theorem dX7_plan_20 : decode cX7_plan 20 = .ok (.iconst 0, 1) := by decide +kernel
theorem dX7_plan_21 : decode cX7_plan 21 = .ok (.putfield 92, 3) := by decide +kernel
theorem dX7_plan_24 : decode cX7_plan 24 = .ok (.iload_n 1, 1) := by decide +kernel
theorem dX7_plan_25 : decode cX7_plan 25 = .ok (.ifCond .ne 8, 3) := by decide +kernel
theorem dX7_plan_28 : decode cX7_plan 28 = .ok (.ldc 103, 2) := by decide +kernel
theorem dX7_plan_30 : decode cX7_plan 30 = .ok (.iload_n 2, 1) := by decide +kernel
theorem dX7_plan_31 : decode cX7_plan 31 = .ok (.isub, 1) := by decide +kernel
theorem dX7_plan_32 : decode cX7_plan 32 = .ok (.ireturn, 1) := by decide +kernel
theorem dX7_plan_33 : decode cX7_plan 33 = .ok (.aload_n 0, 1) := by decide +kernel
theorem dX7_plan_34 : decode cX7_plan 34 = .ok (.getfield 12, 3) := by decide +kernel
theorem dX7_plan_37 : decode cX7_plan 37 = .ok (.invokevirtual 104, 3) := by decide +kernel
theorem dX7_plan_40 : decode cX7_plan 40 = .ok (.iconst 0, 1) := by decide +kernel
theorem dX7_plan_41 : decode cX7_plan 41 = .ok (.istore_n 3, 1) := by decide +kernel
theorem dX7_plan_42 : decode cX7_plan 42 = .ok (.iload_n 3, 1) := by decide +kernel
theorem dX7_plan_43 : decode cX7_plan 43 = .ok (.aload_n 0, 1) := by decide +kernel
theorem dX7_plan_44 : decode cX7_plan 44 = .ok (.getfield 35, 3) := by decide +kernel
theorem dX7_plan_47 : decode cX7_plan 47 = .ok (.getfield 107, 3) := by decide +kernel
theorem dX7_plan_50 : decode cX7_plan 50 = .ok (.if_icmp .ge 47, 3) := by decide +kernel
theorem dX7_plan_53 : decode cX7_plan 53 = .ok (.aload_n 0, 1) := by decide +kernel
theorem dX7_plan_54 : decode cX7_plan 54 = .ok (.getfield 35, 3) := by decide +kernel
theorem dX7_plan_57 : decode cX7_plan 57 = .ok (.getfield 110, 3) := by decide +kernel
theorem dX7_plan_60 : decode cX7_plan 60 = .ok (.iload_n 3, 1) := by decide +kernel
theorem dX7_plan_61 : decode cX7_plan 61 = .ok (.aaload, 1) := by decide +kernel
theorem dX7_plan_62 : decode cX7_plan 62 = .ok (.astore 4, 2) := by decide +kernel
theorem dX7_plan_64 : decode cX7_plan 64 = .ok (.aload_n 0, 1) := by decide +kernel
theorem dX7_plan_65 : decode cX7_plan 65 = .ok (.getfield 12, 3) := by decide +kernel
theorem dX7_plan_68 : decode cX7_plan 68 = .ok (.aload 4, 2) := by decide +kernel
theorem dX7_plan_70 : decode cX7_plan 70 = .ok (.getfield 113, 3) := by decide +kernel
theorem dX7_plan_73 : decode cX7_plan 73 = .ok (.aload 4, 2) := by decide +kernel
theorem dX7_plan_75 : decode cX7_plan 75 = .ok (.getfield 118, 3) := by decide +kernel
theorem dX7_plan_78 : decode cX7_plan 78 = .ok (.aload 4, 2) := by decide +kernel
theorem dX7_plan_80 : decode cX7_plan 80 = .ok (.getfield 121, 3) := by decide +kernel
theorem dX7_plan_83 : decode cX7_plan 83 = .ok (.aload 4, 2) := by decide +kernel
theorem dX7_plan_85 : decode cX7_plan 85 = .ok (.getfield 124, 3) := by decide +kernel
theorem dX7_plan_88 : decode cX7_plan 88 = .ok (.invokevirtual 127, 3) := by decide +kernel
theorem dX7_plan_91 : decode cX7_plan 91 = .ok (.iinc 3 1, 3) := by decide +kernel
theorem dX7_plan_94 : decode cX7_plan 94 = .ok (.goto (-52), 3) := by decide +kernel
theorem dX7_plan_97 : decode cX7_plan 97 = .ok (.aload_n 0, 1) := by decide +kernel
theorem dX7_plan_98 : decode cX7_plan 98 = .ok (.getfield 19, 3) := by decide +kernel
theorem dX7_plan_101 : decode cX7_plan 101 = .ok (.iconst 0, 1) := by decide +kernel
theorem dX7_plan_102 : decode cX7_plan 102 = .ok (.putfield 131, 3) := by decide +kernel
theorem dX7_plan_105 : decode cX7_plan 105 = .ok (.aload_n 0, 1) := by decide +kernel
theorem dX7_plan_106 : decode cX7_plan 106 = .ok (.getfield 12, 3) := by decide +kernel
theorem dX7_plan_109 : decode cX7_plan 109 = .ok (.getfield 68, 3) := by decide +kernel
theorem dX7_plan_112 : decode cX7_plan 112 = .ok (.ireturn, 1) := by decide +kernel
theorem dX7_count_0 : decode cX7_count 0 = .ok (.iload_n 1, 1) := by decide +kernel
theorem dX7_count_1 : decode cX7_count 1 = .ok (.tableswitch 103 0 5 #[39, 47, 63, 79, 87, 95], 39) := by decide +kernel
theorem dX7_count_40 : decode cX7_count 40 = .ok (.aload_n 0, 1) := by decide +kernel
theorem dX7_count_41 : decode cX7_count 41 = .ok (.getfield 12, 3) := by decide +kernel
theorem dX7_count_44 : decode cX7_count 44 = .ok (.getfield 68, 3) := by decide +kernel
theorem dX7_count_47 : decode cX7_count 47 = .ok (.ireturn, 1) := by decide +kernel
theorem dX7_count_48 : decode cX7_count 48 = .ok (.aload_n 0, 1) := by decide +kernel
theorem dX7_count_49 : decode cX7_count 49 = .ok (.getfield 12, 3) := by decide +kernel
theorem dX7_count_52 : decode cX7_count 52 = .ok (.getfield 80, 3) := by decide +kernel
theorem dX7_count_55 : decode cX7_count 55 = .ok (.ifCond .eq 7, 3) := by decide +kernel
theorem dX7_count_58 : decode cX7_count 58 = .ok (.iconst 1, 1) := by decide +kernel
theorem dX7_count_59 : decode cX7_count 59 = .ok (.goto 4, 3) := by decide +kernel
theorem dX7_count_62 : decode cX7_count 62 = .ok (.iconst 0, 1) := by decide +kernel
theorem dX7_count_63 : decode cX7_count 63 = .ok (.ireturn, 1) := by decide +kernel
theorem dX7_count_64 : decode cX7_count 64 = .ok (.aload_n 0, 1) := by decide +kernel
theorem dX7_count_65 : decode cX7_count 65 = .ok (.getfield 12, 3) := by decide +kernel
theorem dX7_count_68 : decode cX7_count 68 = .ok (.getfield 134, 3) := by decide +kernel
theorem dX7_count_71 : decode cX7_count 71 = .ok (.ifCond .eq 7, 3) := by decide +kernel
theorem dX7_count_74 : decode cX7_count 74 = .ok (.iconst 1, 1) := by decide +kernel
theorem dX7_count_75 : decode cX7_count 75 = .ok (.goto 4, 3) := by decide +kernel
theorem dX7_count_78 : decode cX7_count 78 = .ok (.iconst 0, 1) := by decide +kernel
theorem dX7_count_79 : decode cX7_count 79 = .ok (.ireturn, 1) := by decide +kernel
theorem dX7_count_80 : decode cX7_count 80 = .ok (.aload_n 0, 1) := by decide +kernel
theorem dX7_count_81 : decode cX7_count 81 = .ok (.getfield 12, 3) := by decide +kernel
theorem dX7_count_84 : decode cX7_count 84 = .ok (.invokevirtual 137, 3) := by decide +kernel
theorem dX7_count_87 : decode cX7_count 87 = .ok (.ireturn, 1) := by decide +kernel
theorem dX7_count_88 : decode cX7_count 88 = .ok (.aload_n 0, 1) := by decide +kernel
theorem dX7_count_89 : decode cX7_count 89 = .ok (.getfield 12, 3) := by decide +kernel
theorem dX7_count_92 : decode cX7_count 92 = .ok (.invokevirtual 141, 3) := by decide +kernel
theorem dX7_count_95 : decode cX7_count 95 = .ok (.ireturn, 1) := by decide +kernel
theorem dX7_count_96 : decode cX7_count 96 = .ok (.aload_n 0, 1) := by decide +kernel
theorem dX7_count_97 : decode cX7_count 97 = .ok (.getfield 19, 3) := by decide +kernel
theorem dX7_count_100 : decode cX7_count 100 = .ok (.getfield 131, 3) := by decide +kernel
theorem dX7_count_103 : decode cX7_count 103 = .ok (.ireturn, 1) := by decide +kernel
theorem dX7_count_104 : decode cX7_count 104 = .ok (.ldc 64, 2) := by decide +kernel
theorem dX7_count_106 : decode cX7_count 106 = .ok (.ireturn, 1) := by decide +kernel
theorem dX7_push_0 : decode cX7_push 0 = .ok (.aload_n 0, 1) := by decide +kernel
theorem dX7_push_1 : decode cX7_push 1 = .ok (.iload_n 1, 1) := by decide +kernel
theorem dX7_push_2 : decode cX7_push 2 = .ok (.iload_n 2, 1) := by decide +kernel
theorem dX7_push_3 : decode cX7_push 3 = .ok (.iload_n 3, 1) := by decide +kernel
theorem dX7_push_4 : decode cX7_push 4 = .ok (.iload 4, 2) := by decide +kernel
theorem dX7_push_6 : decode cX7_push 6 = .ok (.invokevirtual 144, 3) := by decide +kernel
theorem dX7_push_9 : decode cX7_push 9 = .ok (.istore 5, 2) := by decide +kernel
theorem dX7_push_11 : decode cX7_push 11 = .ok (.iload 5, 2) := by decide +kernel
theorem dX7_push_13 : decode cX7_push 13 = .ok (.ifCond .eq 6, 3) := by decide +kernel
theorem dX7_push_16 : decode cX7_push 16 = .ok (.iload 5, 2) := by decide +kernel
theorem dX7_push_18 : decode cX7_push 18 = .ok (.ireturn, 1) := by decide +kernel
theorem dX7_push_19 : decode cX7_push 19 = .ok (.aload_n 0, 1) := by decide +kernel
theorem dX7_push_20 : decode cX7_push 20 = .ok (.getfield 19, 3) := by decide +kernel
theorem dX7_push_23 : decode cX7_push 23 = .ok (.aload_n 0, 1) := by decide +kernel
theorem dX7_push_24 : decode cX7_push 24 = .ok (.getfield 12, 3) := by decide +kernel
theorem dX7_push_27 : decode cX7_push 27 = .ok (.invokevirtual 148, 3) := by decide +kernel
theorem dX7_push_30 : decode cX7_push 30 = .ok (.aload_n 0, 1) := by decide +kernel
theorem dX7_push_31 : decode cX7_push 31 = .ok (.getfield 12, 3) := by decide +kernel
theorem dX7_push_34 : decode cX7_push 34 = .ok (.iload_n 1, 1) := by decide +kernel
theorem dX7_push_35 : decode cX7_push 35 = .ok (.iload_n 2, 1) := by decide +kernel
theorem dX7_push_36 : decode cX7_push 36 = .ok (.iload_n 3, 1) := by decide +kernel
theorem dX7_push_37 : decode cX7_push 37 = .ok (.iload 4, 2) := by decide +kernel
theorem dX7_push_39 : decode cX7_push 39 = .ok (.invokevirtual 127, 3) := by decide +kernel
theorem dX7_push_42 : decode cX7_push 42 = .ok (.aload_n 0, 1) := by decide +kernel
theorem dX7_push_43 : decode cX7_push 43 = .ok (.getfield 12, 3) := by decide +kernel
theorem dX7_push_46 : decode cX7_push 46 = .ok (.getfield 68, 3) := by decide +kernel
theorem dX7_push_49 : decode cX7_push 49 = .ok (.ireturn, 1) := by decide +kernel
theorem dX7_jump_0 : decode cX7_jump 0 = .ok (.aload_n 0, 1) := by decide +kernel
theorem dX7_jump_1 : decode cX7_jump 1 = .ok (.iload_n 1, 1) := by decide +kernel
theorem dX7_jump_2 : decode cX7_jump 2 = .ok (.iload_n 2, 1) := by decide +kernel
theorem dX7_jump_3 : decode cX7_jump 3 = .ok (.iload_n 3, 1) := by decide +kernel
theorem dX7_jump_4 : decode cX7_jump 4 = .ok (.iload 4, 2) := by decide +kernel
theorem dX7_jump_6 : decode cX7_jump 6 = .ok (.invokevirtual 144, 3) := by decide +kernel
theorem dX7_jump_9 : decode cX7_jump 9 = .ok (.istore 5, 2) := by decide +kernel
theorem dX7_jump_11 : decode cX7_jump 11 = .ok (.iload 5, 2) := by decide +kernel
theorem dX7_jump_13 : decode cX7_jump 13 = .ok (.ifCond .eq 6, 3) := by decide +kernel
theorem dX7_jump_16 : decode cX7_jump 16 = .ok (.iload 5, 2) := by decide +kernel
theorem dX7_jump_18 : decode cX7_jump 18 = .ok (.ireturn, 1) := by decide +kernel
theorem dX7_jump_19 : decode cX7_jump 19 = .ok (.aload_n 0, 1) := by decide +kernel
theorem dX7_jump_20 : decode cX7_jump 20 = .ok (.getfield 19, 3) := by decide +kernel
theorem dX7_jump_23 : decode cX7_jump 23 = .ok (.aload_n 0, 1) := by decide +kernel
theorem dX7_jump_24 : decode cX7_jump 24 = .ok (.getfield 12, 3) := by decide +kernel
theorem dX7_jump_27 : decode cX7_jump 27 = .ok (.invokevirtual 148, 3) := by decide +kernel
theorem dX7_jump_30 : decode cX7_jump 30 = .ok (.aload_n 0, 1) := by decide +kernel
theorem dX7_jump_31 : decode cX7_jump 31 = .ok (.getfield 12, 3) := by decide +kernel
theorem dX7_jump_34 : decode cX7_jump 34 = .ok (.iload_n 1, 1) := by decide +kernel
theorem dX7_jump_35 : decode cX7_jump 35 = .ok (.iload_n 2, 1) := by decide +kernel
theorem dX7_jump_36 : decode cX7_jump 36 = .ok (.iload_n 3, 1) := by decide +kernel
theorem dX7_jump_37 : decode cX7_jump 37 = .ok (.iload 4, 2) := by decide +kernel
theorem dX7_jump_39 : decode cX7_jump 39 = .ok (.invokevirtual 151, 3) := by decide +kernel
theorem dX7_jump_42 : decode cX7_jump 42 = .ok (.aload_n 0, 1) := by decide +kernel
theorem dX7_jump_43 : decode cX7_jump 43 = .ok (.getfield 12, 3) := by decide +kernel
theorem dX7_jump_46 : decode cX7_jump 46 = .ok (.getfield 68, 3) := by decide +kernel
theorem dX7_jump_49 : decode cX7_jump 49 = .ok (.ireturn, 1) := by decide +kernel
theorem dX7_purge_0 : decode cX7_purge 0 = .ok (.iload_n 1, 1) := by decide +kernel
theorem dX7_purge_1 : decode cX7_purge 1 = .ok (.invokestatic 154, 3) := by decide +kernel
theorem dX7_purge_4 : decode cX7_purge 4 = .ok (.ifCond .ne 6, 3) := by decide +kernel
theorem dX7_purge_7 : decode cX7_purge 7 = .ok (.ldc 64, 2) := by decide +kernel
theorem dX7_purge_9 : decode cX7_purge 9 = .ok (.ireturn, 1) := by decide +kernel
theorem dX7_purge_10 : decode cX7_purge 10 = .ok (.aload_n 0, 1) := by decide +kernel
theorem dX7_purge_11 : decode cX7_purge 11 = .ok (.getfield 12, 3) := by decide +kernel
theorem dX7_purge_14 : decode cX7_purge 14 = .ok (.invokevirtual 141, 3) := by decide +kernel
theorem dX7_purge_17 : decode cX7_purge 17 = .ok (.iconst 1, 1) := by decide +kernel
theorem dX7_purge_18 : decode cX7_purge 18 = .ok (.iload_n 1, 1) := by decide +kernel
theorem dX7_purge_19 : decode cX7_purge 19 = .ok (.ishl, 1) := by decide +kernel
theorem dX7_purge_20 : decode cX7_purge 20 = .ok (.iand, 1) := by decide +kernel
theorem dX7_purge_21 : decode cX7_purge 21 = .ok (.ifCond .ne 6, 3) := by decide +kernel
theorem dX7_purge_24 : decode cX7_purge 24 = .ok (.ldc 157, 2) := by decide +kernel
theorem dX7_purge_26 : decode cX7_purge 26 = .ok (.ireturn, 1) := by decide +kernel
theorem dX7_purge_27 : decode cX7_purge 27 = .ok (.aload_n 0, 1) := by decide +kernel
theorem dX7_purge_28 : decode cX7_purge 28 = .ok (.getfield 19, 3) := by decide +kernel
theorem dX7_purge_31 : decode cX7_purge 31 = .ok (.aload_n 0, 1) := by decide +kernel
theorem dX7_purge_32 : decode cX7_purge 32 = .ok (.getfield 12, 3) := by decide +kernel
theorem dX7_purge_35 : decode cX7_purge 35 = .ok (.invokevirtual 148, 3) := by decide +kernel
theorem dX7_purge_38 : decode cX7_purge 38 = .ok (.aload_n 0, 1) := by decide +kernel
theorem dX7_purge_39 : decode cX7_purge 39 = .ok (.getfield 12, 3) := by decide +kernel
theorem dX7_purge_42 : decode cX7_purge 42 = .ok (.iload_n 1, 1) := by decide +kernel
theorem dX7_purge_43 : decode cX7_purge 43 = .ok (.invokevirtual 158, 3) := by decide +kernel
theorem dX7_purge_46 : decode cX7_purge 46 = .ok (.ireturn, 1) := by decide +kernel
theorem dX7_stop_0 : decode cX7_stop 0 = .ok (.aload_n 0, 1) := by decide +kernel
theorem dX7_stop_1 : decode cX7_stop 1 = .ok (.getfield 12, 3) := by decide +kernel
theorem dX7_stop_4 : decode cX7_stop 4 = .ok (.getfield 80, 3) := by decide +kernel
theorem dX7_stop_7 : decode cX7_stop 7 = .ok (.ifCond .ne 6, 3) := by decide +kernel
theorem dX7_stop_10 : decode cX7_stop 10 = .ok (.ldc 157, 2) := by decide +kernel
theorem dX7_stop_12 : decode cX7_stop 12 = .ok (.ireturn, 1) := by decide +kernel
theorem dX7_stop_13 : decode cX7_stop 13 = .ok (.aload_n 0, 1) := by decide +kernel
theorem dX7_stop_14 : decode cX7_stop 14 = .ok (.getfield 19, 3) := by decide +kernel
theorem dX7_stop_17 : decode cX7_stop 17 = .ok (.aload_n 0, 1) := by decide +kernel
theorem dX7_stop_18 : decode cX7_stop 18 = .ok (.getfield 12, 3) := by decide +kernel
theorem dX7_stop_21 : decode cX7_stop 21 = .ok (.invokevirtual 148, 3) := by decide +kernel
theorem dX7_stop_24 : decode cX7_stop 24 = .ok (.aload_n 0, 1) := by decide +kernel
theorem dX7_stop_25 : decode cX7_stop 25 = .ok (.getfield 12, 3) := by decide +kernel
theorem dX7_stop_28 : decode cX7_stop 28 = .ok (.iconst 0, 1) := by decide +kernel
theorem dX7_stop_29 : decode cX7_stop 29 = .ok (.putfield 80, 3) := by decide +kernel
theorem dX7_stop_32 : decode cX7_stop 32 = .ok (.aload_n 0, 1) := by decide +kernel
theorem dX7_stop_33 : decode cX7_stop 33 = .ok (.getfield 12, 3) := by decide +kernel
theorem dX7_stop_36 : decode cX7_stop 36 = .ok (.getfield 83, 3) := by decide +kernel
theorem dX7_stop_39 : decode cX7_stop 39 = .ok (.invokevirtual 162, 3) := by decide +kernel
theorem dX7_stop_42 : decode cX7_stop 42 = .ok (.ireturn, 1) := by decide +kernel
theorem dX7_hold_0 : decode cX7_hold 0 = .ok (.aload_n 0, 1) := by decide +kernel
theorem dX7_hold_1 : decode cX7_hold 1 = .ok (.getfield 19, 3) := by decide +kernel
theorem dX7_hold_4 : decode cX7_hold 4 = .ok (.aload_n 0, 1) := by decide +kernel
theorem dX7_hold_5 : decode cX7_hold 5 = .ok (.getfield 12, 3) := by decide +kernel
theorem dX7_hold_8 : decode cX7_hold 8 = .ok (.invokevirtual 148, 3) := by decide +kernel
theorem dX7_hold_11 : decode cX7_hold 11 = .ok (.aload_n 0, 1) := by decide +kernel
theorem dX7_hold_12 : decode cX7_hold 12 = .ok (.getfield 12, 3) := by decide +kernel
theorem dX7_hold_15 : decode cX7_hold 15 = .ok (.aload_n 0, 1) := by decide +kernel
theorem dX7_hold_16 : decode cX7_hold 16 = .ok (.getfield 12, 3) := by decide +kernel
theorem dX7_hold_19 : decode cX7_hold 19 = .ok (.getfield 134, 3) := by decide +kernel
theorem dX7_hold_22 : decode cX7_hold 22 = .ok (.ifCond .ne 7, 3) := by decide +kernel
theorem dX7_hold_25 : decode cX7_hold 25 = .ok (.iconst 1, 1) := by decide +kernel
theorem dX7_hold_26 : decode cX7_hold 26 = .ok (.goto 4, 3) := by decide +kernel
theorem dX7_hold_29 : decode cX7_hold 29 = .ok (.iconst 0, 1) := by decide +kernel
theorem dX7_hold_30 : decode cX7_hold 30 = .ok (.putfield 134, 3) := by decide +kernel
theorem dX7_hold_33 : decode cX7_hold 33 = .ok (.aload_n 0, 1) := by decide +kernel
theorem dX7_hold_34 : decode cX7_hold 34 = .ok (.getfield 12, 3) := by decide +kernel
theorem dX7_hold_37 : decode cX7_hold 37 = .ok (.getfield 134, 3) := by decide +kernel
theorem dX7_hold_40 : decode cX7_hold 40 = .ok (.ifCond .eq 7, 3) := by decide +kernel
theorem dX7_hold_43 : decode cX7_hold 43 = .ok (.iconst 1, 1) := by decide +kernel
theorem dX7_hold_44 : decode cX7_hold 44 = .ok (.goto 4, 3) := by decide +kernel
theorem dX7_hold_47 : decode cX7_hold 47 = .ok (.iconst 0, 1) := by decide +kernel
theorem dX7_hold_48 : decode cX7_hold 48 = .ok (.ireturn, 1) := by decide +kernel
theorem dX7_step_0 : decode cX7_step 0 = .ok (.iload_n 1, 1) := by decide +kernel
theorem dX7_step_1 : decode cX7_step 1 = .ok (.iconst 1, 1) := by decide +kernel
theorem dX7_step_2 : decode cX7_step 2 = .ok (.if_icmp .lt 10, 3) := by decide +kernel
theorem dX7_step_5 : decode cX7_step 5 = .ok (.iload_n 1, 1) := by decide +kernel
theorem dX7_step_6 : decode cX7_step 6 = .ok (.sipush 200, 3) := by decide +kernel
theorem dX7_step_9 : decode cX7_step 9 = .ok (.if_icmp .le 6, 3) := by decide +kernel
theorem dX7_step_12 : decode cX7_step 12 = .ok (.ldc 64, 2) := by decide +kernel
theorem dX7_step_14 : decode cX7_step 14 = .ok (.ireturn, 1) := by decide +kernel
theorem dX7_step_15 : decode cX7_step 15 = .ok (.aload_n 0, 1) := by decide +kernel
theorem dX7_step_16 : decode cX7_step 16 = .ok (.getfield 12, 3) := by decide +kernel
theorem dX7_step_19 : decode cX7_step 19 = .ok (.getfield 134, 3) := by decide +kernel
theorem dX7_step_22 : decode cX7_step 22 = .ok (.ifCond .eq 6, 3) := by decide +kernel
theorem dX7_step_25 : decode cX7_step 25 = .ok (.ldc 157, 2) := by decide +kernel
theorem dX7_step_27 : decode cX7_step 27 = .ok (.ireturn, 1) := by decide +kernel
theorem dX7_step_28 : decode cX7_step 28 = .ok (.aload_n 0, 1) := by decide +kernel
theorem dX7_step_29 : decode cX7_step 29 = .ok (.getfield 19, 3) := by decide +kernel
theorem dX7_step_32 : decode cX7_step 32 = .ok (.aload_n 0, 1) := by decide +kernel
theorem dX7_step_33 : decode cX7_step 33 = .ok (.getfield 12, 3) := by decide +kernel
theorem dX7_step_36 : decode cX7_step 36 = .ok (.invokevirtual 148, 3) := by decide +kernel
theorem dX7_step_39 : decode cX7_step 39 = .ok (.aload_n 0, 1) := by decide +kernel
theorem dX7_step_40 : decode cX7_step 40 = .ok (.iload_n 1, 1) := by decide +kernel
theorem dX7_step_41 : decode cX7_step 41 = .ok (.invokevirtual 163, 3) := by decide +kernel
theorem dX7_step_44 : decode cX7_step 44 = .ok (.ireturn, 1) := by decide +kernel
theorem dX7_drift_0 : decode cX7_drift 0 = .ok (.iload_n 1, 1) := by decide +kernel
theorem dX7_drift_1 : decode cX7_drift 1 = .ok (.iconst 1, 1) := by decide +kernel
theorem dX7_drift_2 : decode cX7_drift 2 = .ok (.if_icmp .lt 9, 3) := by decide +kernel
theorem dX7_drift_5 : decode cX7_drift 5 = .ok (.iload_n 1, 1) := by decide +kernel
theorem dX7_drift_6 : decode cX7_drift 6 = .ok (.bipush 40, 2) := by decide +kernel
theorem dX7_drift_8 : decode cX7_drift 8 = .ok (.if_icmp .le 6, 3) := by decide +kernel
theorem dX7_drift_11 : decode cX7_drift 11 = .ok (.ldc 64, 2) := by decide +kernel
theorem dX7_drift_13 : decode cX7_drift 13 = .ok (.ireturn, 1) := by decide +kernel
theorem dX7_drift_14 : decode cX7_drift 14 = .ok (.iconst 0, 1) := by decide +kernel
theorem dX7_drift_15 : decode cX7_drift 15 = .ok (.istore_n 2, 1) := by decide +kernel
theorem dX7_drift_16 : decode cX7_drift 16 = .ok (.iload_n 2, 1) := by decide +kernel
theorem dX7_drift_17 : decode cX7_drift 17 = .ok (.iload_n 1, 1) := by decide +kernel
theorem dX7_drift_18 : decode cX7_drift 18 = .ok (.if_icmp .ge 24, 3) := by decide +kernel
theorem dX7_drift_21 : decode cX7_drift 21 = .ok (.aload_n 0, 1) := by decide +kernel
theorem dX7_drift_22 : decode cX7_drift 22 = .ok (.getfield 19, 3) := by decide +kernel
theorem dX7_drift_25 : decode cX7_drift 25 = .ok (.aload_n 0, 1) := by decide +kernel
theorem dX7_drift_26 : decode cX7_drift 26 = .ok (.getfield 12, 3) := by decide +kernel
theorem dX7_drift_29 : decode cX7_drift 29 = .ok (.invokevirtual 148, 3) := by decide +kernel
theorem dX7_drift_32 : decode cX7_drift 32 = .ok (.aload_n 0, 1) := by decide +kernel
theorem dX7_drift_33 : decode cX7_drift 33 = .ok (.invokevirtual 166, 3) := by decide +kernel
theorem dX7_drift_36 : decode cX7_drift 36 = .ok (.iinc 2 1, 3) := by decide +kernel
theorem dX7_drift_39 : decode cX7_drift 39 = .ok (.goto (-23), 3) := by decide +kernel
theorem dX7_drift_42 : decode cX7_drift 42 = .ok (.aload_n 0, 1) := by decide +kernel
theorem dX7_drift_43 : decode cX7_drift 43 = .ok (.getfield 12, 3) := by decide +kernel
theorem dX7_drift_46 : decode cX7_drift 46 = .ok (.invokevirtual 137, 3) := by decide +kernel
theorem dX7_drift_49 : decode cX7_drift 49 = .ok (.ireturn, 1) := by decide +kernel
theorem dX7_undo_0 : decode cX7_undo 0 = .ok (.aload_n 0, 1) := by decide +kernel
theorem dX7_undo_1 : decode cX7_undo 1 = .ok (.getfield 19, 3) := by decide +kernel
theorem dX7_undo_4 : decode cX7_undo 4 = .ok (.getfield 131, 3) := by decide +kernel
theorem dX7_undo_7 : decode cX7_undo 7 = .ok (.ifCond .gt 6, 3) := by decide +kernel
theorem dX7_undo_10 : decode cX7_undo 10 = .ok (.ldc 87, 2) := by decide +kernel
theorem dX7_undo_12 : decode cX7_undo 12 = .ok (.ireturn, 1) := by decide +kernel
theorem dX7_undo_13 : decode cX7_undo 13 = .ok (.aload_n 0, 1) := by decide +kernel
theorem dX7_undo_14 : decode cX7_undo 14 = .ok (.getfield 19, 3) := by decide +kernel
theorem dX7_undo_17 : decode cX7_undo 17 = .ok (.aload_n 0, 1) := by decide +kernel
theorem dX7_undo_18 : decode cX7_undo 18 = .ok (.getfield 12, 3) := by decide +kernel
theorem dX7_undo_21 : decode cX7_undo 21 = .ok (.invokevirtual 169, 3) := by decide +kernel
theorem dX7_undo_24 : decode cX7_undo 24 = .ok (.aload_n 0, 1) := by decide +kernel
theorem dX7_undo_25 : decode cX7_undo 25 = .ok (.getfield 19, 3) := by decide +kernel
theorem dX7_undo_28 : decode cX7_undo 28 = .ok (.getfield 131, 3) := by decide +kernel
theorem dX7_undo_31 : decode cX7_undo 31 = .ok (.ireturn, 1) := by decide +kernel
theorem dX7_seed_0 : decode cX7_seed 0 = .ok (.iload_n 1, 1) := by decide +kernel
theorem dX7_seed_1 : decode cX7_seed 1 = .ok (.ifCond .ge 6, 3) := by decide +kernel
theorem dX7_seed_4 : decode cX7_seed 4 = .ok (.ldc 64, 2) := by decide +kernel
theorem dX7_seed_6 : decode cX7_seed 6 = .ok (.ireturn, 1) := by decide +kernel
theorem dX7_seed_7 : decode cX7_seed 7 = .ok (.aload_n 0, 1) := by decide +kernel
theorem dX7_seed_8 : decode cX7_seed 8 = .ok (.getfield 12, 3) := by decide +kernel
theorem dX7_seed_11 : decode cX7_seed 11 = .ok (.getfield 172, 3) := by decide +kernel
theorem dX7_seed_14 : decode cX7_seed 14 = .ok (.istore_n 2, 1) := by decide +kernel
theorem dX7_seed_15 : decode cX7_seed 15 = .ok (.aload_n 0, 1) := by decide +kernel
theorem dX7_seed_16 : decode cX7_seed 16 = .ok (.getfield 12, 3) := by decide +kernel
theorem dX7_seed_19 : decode cX7_seed 19 = .ok (.iload_n 1, 1) := by decide +kernel
theorem dX7_seed_20 : decode cX7_seed 20 = .ok (.putfield 172, 3) := by decide +kernel
theorem dX7_seed_23 : decode cX7_seed 23 = .ok (.iload_n 2, 1) := by decide +kernel
theorem dX7_seed_24 : decode cX7_seed 24 = .ok (.ireturn, 1) := by decide +kernel
theorem dX7_where_0 : decode cX7_where 0 = .ok (.iload_n 1, 1) := by decide +kernel
theorem dX7_where_1 : decode cX7_where 1 = .ok (.ifCond .lt 10, 3) := by decide +kernel
theorem dX7_where_4 : decode cX7_where 4 = .ok (.iload_n 2, 1) := by decide +kernel
theorem dX7_where_5 : decode cX7_where 5 = .ok (.invokestatic 60, 3) := by decide +kernel
theorem dX7_where_8 : decode cX7_where 8 = .ok (.ifCond .ne 6, 3) := by decide +kernel
theorem dX7_where_11 : decode cX7_where 11 = .ok (.ldc 64, 2) := by decide +kernel
theorem dX7_where_13 : decode cX7_where 13 = .ok (.ireturn, 1) := by decide +kernel
theorem dX7_where_14 : decode cX7_where 14 = .ok (.aload_n 0, 1) := by decide +kernel
theorem dX7_where_15 : decode cX7_where 15 = .ok (.getfield 28, 3) := by decide +kernel
theorem dX7_where_18 : decode cX7_where 18 = .ok (.invokevirtual 175, 3) := by decide +kernel
theorem dX7_where_21 : decode cX7_where 21 = .ok (.iload_n 1, 1) := by decide +kernel
theorem dX7_where_22 : decode cX7_where 22 = .ok (.sipush 1287, 3) := by decide +kernel
theorem dX7_where_25 : decode cX7_where 25 = .ok (.invokestatic 178, 3) := by decide +kernel
theorem dX7_where_28 : decode cX7_where 28 = .ok (.istore_n 3, 1) := by decide +kernel
theorem dX7_where_29 : decode cX7_where 29 = .ok (.iconst 0, 1) := by decide +kernel
theorem dX7_where_30 : decode cX7_where 30 = .ok (.istore 4, 2) := by decide +kernel
theorem dX7_where_32 : decode cX7_where 32 = .ok (.iload 4, 2) := by decide +kernel
theorem dX7_where_34 : decode cX7_where 34 = .ok (.iload_n 3, 1) := by decide +kernel
theorem dX7_where_35 : decode cX7_where 35 = .ok (.if_icmp .ge 22, 3) := by decide +kernel
theorem dX7_where_38 : decode cX7_where 38 = .ok (.aload_n 0, 1) := by decide +kernel
theorem dX7_where_39 : decode cX7_where 39 = .ok (.getfield 28, 3) := by decide +kernel
theorem dX7_where_42 : decode cX7_where 42 = .ok (.invokevirtual 184, 3) := by decide +kernel
theorem dX7_where_45 : decode cX7_where 45 = .ok (.ifCond .ne 6, 3) := by decide +kernel
theorem dX7_where_48 : decode cX7_where 48 = .ok (.goto 9, 3) := by decide +kernel
theorem dX7_where_51 : decode cX7_where 51 = .ok (.iinc 4 1, 3) := by decide +kernel
theorem dX7_where_54 : decode cX7_where 54 = .ok (.goto (-22), 3) := by decide +kernel
theorem dX7_where_57 : decode cX7_where 57 = .ok (.aload_n 0, 1) := by decide +kernel
theorem dX7_where_58 : decode cX7_where 58 = .ok (.getfield 28, 3) := by decide +kernel
theorem dX7_where_61 : decode cX7_where 61 = .ok (.getfield 187, 3) := by decide +kernel
theorem dX7_where_64 : decode cX7_where 64 = .ok (.iload_n 2, 1) := by decide +kernel
theorem dX7_where_65 : decode cX7_where 65 = .ok (.iaload, 1) := by decide +kernel
theorem dX7_where_66 : decode cX7_where 66 = .ok (.ireturn, 1) := by decide +kernel
theorem dX7_pulses_0 : decode cX7_pulses 0 = .ok (.iload_n 1, 1) := by decide +kernel
theorem dX7_pulses_1 : decode cX7_pulses 1 = .ok (.invokestatic 60, 3) := by decide +kernel
theorem dX7_pulses_4 : decode cX7_pulses 4 = .ok (.ifCond .eq 10, 3) := by decide +kernel
theorem dX7_pulses_7 : decode cX7_pulses 7 = .ok (.iload_n 2, 1) := by decide +kernel
theorem dX7_pulses_8 : decode cX7_pulses 8 = .ok (.invokestatic 188, 3) := by decide +kernel
theorem dX7_pulses_11 : decode cX7_pulses 11 = .ok (.ifCond .ne 6, 3) := by decide +kernel
theorem dX7_pulses_14 : decode cX7_pulses 14 = .ok (.ldc 64, 2) := by decide +kernel
theorem dX7_pulses_16 : decode cX7_pulses 16 = .ok (.ireturn, 1) := by decide +kernel
theorem dX7_pulses_17 : decode cX7_pulses 17 = .ok (.iconst 0, 1) := by decide +kernel
theorem dX7_pulses_18 : decode cX7_pulses 18 = .ok (.istore_n 3, 1) := by decide +kernel
theorem dX7_pulses_19 : decode cX7_pulses 19 = .ok (.iconst 0, 1) := by decide +kernel
theorem dX7_pulses_20 : decode cX7_pulses 20 = .ok (.istore 4, 2) := by decide +kernel
theorem dX7_pulses_22 : decode cX7_pulses 22 = .ok (.iconst 0, 1) := by decide +kernel
theorem dX7_pulses_23 : decode cX7_pulses 23 = .ok (.istore 5, 2) := by decide +kernel
theorem dX7_pulses_25 : decode cX7_pulses 25 = .ok (.aload_n 0, 1) := by decide +kernel
theorem dX7_pulses_26 : decode cX7_pulses 26 = .ok (.getfield 28, 3) := by decide +kernel
theorem dX7_pulses_29 : decode cX7_pulses 29 = .ok (.invokevirtual 175, 3) := by decide +kernel
theorem dX7_pulses_32 : decode cX7_pulses 32 = .ok (.iconst 0, 1) := by decide +kernel
theorem dX7_pulses_33 : decode cX7_pulses 33 = .ok (.istore 6, 2) := by decide +kernel
theorem dX7_pulses_35 : decode cX7_pulses 35 = .ok (.iload 6, 2) := by decide +kernel
theorem dX7_pulses_37 : decode cX7_pulses 37 = .ok (.sipush 1287, 3) := by decide +kernel
theorem dX7_pulses_40 : decode cX7_pulses 40 = .ok (.if_icmp .ge 52, 3) := by decide +kernel
theorem dX7_pulses_43 : decode cX7_pulses 43 = .ok (.aload_n 0, 1) := by decide +kernel
theorem dX7_pulses_44 : decode cX7_pulses 44 = .ok (.getfield 28, 3) := by decide +kernel
theorem dX7_pulses_47 : decode cX7_pulses 47 = .ok (.invokevirtual 184, 3) := by decide +kernel
theorem dX7_pulses_50 : decode cX7_pulses 50 = .ok (.ifCond .eq 42, 3) := by decide +kernel
theorem dX7_pulses_53 : decode cX7_pulses 53 = .ok (.aload_n 0, 1) := by decide +kernel
theorem dX7_pulses_54 : decode cX7_pulses 54 = .ok (.getfield 28, 3) := by decide +kernel
theorem dX7_pulses_57 : decode cX7_pulses 57 = .ok (.getfield 191, 3) := by decide +kernel
theorem dX7_pulses_60 : decode cX7_pulses 60 = .ok (.iload_n 1, 1) := by decide +kernel
theorem dX7_pulses_61 : decode cX7_pulses 61 = .ok (.iaload, 1) := by decide +kernel
theorem dX7_pulses_62 : decode cX7_pulses 62 = .ok (.ifCond .eq 12, 3) := by decide +kernel
theorem dX7_pulses_65 : decode cX7_pulses 65 = .ok (.iinc 3 1, 3) := by decide +kernel
theorem dX7_pulses_68 : decode cX7_pulses 68 = .ok (.iconst 0, 1) := by decide +kernel
theorem dX7_pulses_69 : decode cX7_pulses 69 = .ok (.istore 4, 2) := by decide +kernel
theorem dX7_pulses_71 : decode cX7_pulses 71 = .ok (.goto 15, 3) := by decide +kernel
theorem dX7_pulses_74 : decode cX7_pulses 74 = .ok (.iinc 4 1, 3) := by decide +kernel
theorem dX7_pulses_77 : decode cX7_pulses 77 = .ok (.iload 5, 2) := by decide +kernel
theorem dX7_pulses_79 : decode cX7_pulses 79 = .ok (.iload 4, 2) := by decide +kernel
theorem dX7_pulses_81 : decode cX7_pulses 81 = .ok (.invokestatic 194, 3) := by decide +kernel
theorem dX7_pulses_84 : decode cX7_pulses 84 = .ok (.istore 5, 2) := by decide +kernel
theorem dX7_pulses_86 : decode cX7_pulses 86 = .ok (.iinc 6 1, 3) := by decide +kernel
theorem dX7_pulses_89 : decode cX7_pulses 89 = .ok (.goto (-54), 3) := by decide +kernel
theorem dX7_pulses_92 : decode cX7_pulses 92 = .ok (.iload_n 2, 1) := by decide +kernel
theorem dX7_pulses_93 : decode cX7_pulses 93 = .ok (.ifCond .ne 7, 3) := by decide +kernel
theorem dX7_pulses_96 : decode cX7_pulses 96 = .ok (.iload_n 3, 1) := by decide +kernel
theorem dX7_pulses_97 : decode cX7_pulses 97 = .ok (.goto 5, 3) := by decide +kernel
theorem dX7_pulses_100 : decode cX7_pulses 100 = .ok (.iload 5, 2) := by decide +kernel
theorem dX7_pulses_102 : decode cX7_pulses 102 = .ok (.ireturn, 1) := by decide +kernel
theorem dX7_next_0 : decode cX7_next 0 = .ok (.iload_n 1, 1) := by decide +kernel
theorem dX7_next_1 : decode cX7_next 1 = .ok (.invokestatic 60, 3) := by decide +kernel
theorem dX7_next_4 : decode cX7_next 4 = .ok (.ifCond .eq 7, 3) := by decide +kernel
theorem dX7_next_7 : decode cX7_next 7 = .ok (.iload_n 2, 1) := by decide +kernel
theorem dX7_next_8 : decode cX7_next 8 = .ok (.ifCond .ge 6, 3) := by decide +kernel
theorem dX7_next_11 : decode cX7_next 11 = .ok (.ldc 64, 2) := by decide +kernel
theorem dX7_next_13 : decode cX7_next 13 = .ok (.ireturn, 1) := by decide +kernel
theorem dX7_next_14 : decode cX7_next 14 = .ok (.aload_n 0, 1) := by decide +kernel
theorem dX7_next_15 : decode cX7_next 15 = .ok (.getfield 28, 3) := by decide +kernel
theorem dX7_next_18 : decode cX7_next 18 = .ok (.invokevirtual 175, 3) := by decide +kernel
theorem dX7_next_21 : decode cX7_next 21 = .ok (.iconst 0, 1) := by decide +kernel
theorem dX7_next_22 : decode cX7_next 22 = .ok (.istore_n 3, 1) := by decide +kernel
theorem dX7_next_23 : decode cX7_next 23 = .ok (.iload_n 3, 1) := by decide +kernel
theorem dX7_next_24 : decode cX7_next 24 = .ok (.sipush 1287, 3) := by decide +kernel
theorem dX7_next_27 : decode cX7_next 27 = .ok (.if_icmp .ge 38, 3) := by decide +kernel
theorem dX7_next_30 : decode cX7_next 30 = .ok (.aload_n 0, 1) := by decide +kernel
theorem dX7_next_31 : decode cX7_next 31 = .ok (.getfield 28, 3) := by decide +kernel
theorem dX7_next_34 : decode cX7_next 34 = .ok (.invokevirtual 184, 3) := by decide +kernel
theorem dX7_next_37 : decode cX7_next 37 = .ok (.ifCond .eq 28, 3) := by decide +kernel
theorem dX7_next_40 : decode cX7_next 40 = .ok (.iload_n 3, 1) := by decide +kernel
theorem dX7_next_41 : decode cX7_next 41 = .ok (.iload_n 2, 1) := by decide +kernel
theorem dX7_next_42 : decode cX7_next 42 = .ok (.if_icmp .lt 17, 3) := by decide +kernel
theorem dX7_next_45 : decode cX7_next 45 = .ok (.aload_n 0, 1) := by decide +kernel
theorem dX7_next_46 : decode cX7_next 46 = .ok (.getfield 28, 3) := by decide +kernel
theorem dX7_next_49 : decode cX7_next 49 = .ok (.getfield 191, 3) := by decide +kernel
theorem dX7_next_52 : decode cX7_next 52 = .ok (.iload_n 1, 1) := by decide +kernel
theorem dX7_next_53 : decode cX7_next 53 = .ok (.iaload, 1) := by decide +kernel
theorem dX7_next_54 : decode cX7_next 54 = .ok (.ifCond .eq 5, 3) := by decide +kernel
theorem dX7_next_57 : decode cX7_next 57 = .ok (.iload_n 3, 1) := by decide +kernel
theorem dX7_next_58 : decode cX7_next 58 = .ok (.ireturn, 1) := by decide +kernel
theorem dX7_next_59 : decode cX7_next 59 = .ok (.iinc 3 1, 3) := by decide +kernel
theorem dX7_next_62 : decode cX7_next 62 = .ok (.goto (-39), 3) := by decide +kernel
theorem dX7_next_65 : decode cX7_next 65 = .ok (.ldc 87, 2) := by decide +kernel
theorem dX7_next_67 : decode cX7_next 67 = .ok (.ireturn, 1) := by decide +kernel
theorem dX7_meets_0 : decode cX7_meets 0 = .ok (.aload_n 0, 1) := by decide +kernel
theorem dX7_meets_1 : decode cX7_meets 1 = .ok (.getfield 28, 3) := by decide +kernel
theorem dX7_meets_4 : decode cX7_meets 4 = .ok (.invokevirtual 175, 3) := by decide +kernel
theorem dX7_meets_7 : decode cX7_meets 7 = .ok (.iconst 0, 1) := by decide +kernel
theorem dX7_meets_8 : decode cX7_meets 8 = .ok (.istore 4, 2) := by decide +kernel
theorem dX7_meets_10 : decode cX7_meets 10 = .ok (.iload 4, 2) := by decide +kernel
theorem dX7_meets_12 : decode cX7_meets 12 = .ok (.sipush 1287, 3) := by decide +kernel
theorem dX7_meets_15 : decode cX7_meets 15 = .ok (.if_icmp .gt 64, 3) := by decide +kernel
theorem dX7_meets_18 : decode cX7_meets 18 = .ok (.aload_n 0, 1) := by decide +kernel
theorem dX7_meets_19 : decode cX7_meets 19 = .ok (.getfield 28, 3) := by decide +kernel
theorem dX7_meets_22 : decode cX7_meets 22 = .ok (.getfield 187, 3) := by decide +kernel
theorem dX7_meets_25 : decode cX7_meets 25 = .ok (.iconst 0, 1) := by decide +kernel
theorem dX7_meets_26 : decode cX7_meets 26 = .ok (.iaload, 1) := by decide +kernel
theorem dX7_meets_27 : decode cX7_meets 27 = .ok (.iload_n 1, 1) := by decide +kernel
theorem dX7_meets_28 : decode cX7_meets 28 = .ok (.if_icmp .ne 32, 3) := by decide +kernel
theorem dX7_meets_31 : decode cX7_meets 31 = .ok (.aload_n 0, 1) := by decide +kernel
theorem dX7_meets_32 : decode cX7_meets 32 = .ok (.getfield 28, 3) := by decide +kernel
theorem dX7_meets_35 : decode cX7_meets 35 = .ok (.getfield 187, 3) := by decide +kernel
theorem dX7_meets_38 : decode cX7_meets 38 = .ok (.iconst 1, 1) := by decide +kernel
theorem dX7_meets_39 : decode cX7_meets 39 = .ok (.iaload, 1) := by decide +kernel
theorem dX7_meets_40 : decode cX7_meets 40 = .ok (.iload_n 2, 1) := by decide +kernel
theorem dX7_meets_41 : decode cX7_meets 41 = .ok (.if_icmp .ne 19, 3) := by decide +kernel
theorem dX7_meets_44 : decode cX7_meets 44 = .ok (.aload_n 0, 1) := by decide +kernel
theorem dX7_meets_45 : decode cX7_meets 45 = .ok (.getfield 28, 3) := by decide +kernel
theorem dX7_meets_48 : decode cX7_meets 48 = .ok (.getfield 187, 3) := by decide +kernel
theorem dX7_meets_51 : decode cX7_meets 51 = .ok (.iconst 2, 1) := by decide +kernel
theorem dX7_meets_52 : decode cX7_meets 52 = .ok (.iaload, 1) := by decide +kernel
theorem dX7_meets_53 : decode cX7_meets 53 = .ok (.iload_n 3, 1) := by decide +kernel
theorem dX7_meets_54 : decode cX7_meets 54 = .ok (.if_icmp .ne 6, 3) := by decide +kernel
theorem dX7_meets_57 : decode cX7_meets 57 = .ok (.iload 4, 2) := by decide +kernel
theorem dX7_meets_59 : decode cX7_meets 59 = .ok (.ireturn, 1) := by decide +kernel
theorem dX7_meets_60 : decode cX7_meets 60 = .ok (.aload_n 0, 1) := by decide +kernel
theorem dX7_meets_61 : decode cX7_meets 61 = .ok (.getfield 28, 3) := by decide +kernel
theorem dX7_meets_64 : decode cX7_meets 64 = .ok (.invokevirtual 184, 3) := by decide +kernel
theorem dX7_meets_67 : decode cX7_meets 67 = .ok (.ifCond .ne 6, 3) := by decide +kernel
theorem dX7_meets_70 : decode cX7_meets 70 = .ok (.goto 9, 3) := by decide +kernel
theorem dX7_meets_73 : decode cX7_meets 73 = .ok (.iinc 4 1, 3) := by decide +kernel
theorem dX7_meets_76 : decode cX7_meets 76 = .ok (.goto (-66), 3) := by decide +kernel
theorem dX7_meets_79 : decode cX7_meets 79 = .ok (.ldc 87, 2) := by decide +kernel
theorem dX7_meets_81 : decode cX7_meets 81 = .ok (.ireturn, 1) := by decide +kernel
theorem dX7_reach_0 : decode cX7_reach 0 = .ok (.iload_n 1, 1) := by decide +kernel
theorem dX7_reach_1 : decode cX7_reach 1 = .ok (.invokestatic 60, 3) := by decide +kernel
theorem dX7_reach_4 : decode cX7_reach 4 = .ok (.ifCond .eq 10, 3) := by decide +kernel
theorem dX7_reach_7 : decode cX7_reach 7 = .ok (.iload_n 2, 1) := by decide +kernel
theorem dX7_reach_8 : decode cX7_reach 8 = .ok (.invokestatic 188, 3) := by decide +kernel
theorem dX7_reach_11 : decode cX7_reach 11 = .ok (.ifCond .ne 6, 3) := by decide +kernel
theorem dX7_reach_14 : decode cX7_reach 14 = .ok (.ldc 64, 2) := by decide +kernel
theorem dX7_reach_16 : decode cX7_reach 16 = .ok (.ireturn, 1) := by decide +kernel
theorem dX7_reach_17 : decode cX7_reach 17 = .ok (.aload_n 0, 1) := by decide +kernel
theorem dX7_reach_18 : decode cX7_reach 18 = .ok (.getfield 12, 3) := by decide +kernel
theorem dX7_reach_21 : decode cX7_reach 21 = .ok (.getfield 65, 3) := by decide +kernel
theorem dX7_reach_24 : decode cX7_reach 24 = .ok (.iload_n 1, 1) := by decide +kernel
theorem dX7_reach_25 : decode cX7_reach 25 = .ok (.iaload, 1) := by decide +kernel
theorem dX7_reach_26 : decode cX7_reach 26 = .ok (.istore_n 3, 1) := by decide +kernel
theorem dX7_reach_27 : decode cX7_reach 27 = .ok (.iload_n 3, 1) := by decide +kernel
theorem dX7_reach_28 : decode cX7_reach 28 = .ok (.istore 4, 2) := by decide +kernel
theorem dX7_reach_30 : decode cX7_reach 30 = .ok (.aload_n 0, 1) := by decide +kernel
theorem dX7_reach_31 : decode cX7_reach 31 = .ok (.getfield 28, 3) := by decide +kernel
theorem dX7_reach_34 : decode cX7_reach 34 = .ok (.invokevirtual 175, 3) := by decide +kernel
theorem dX7_reach_37 : decode cX7_reach 37 = .ok (.iconst 0, 1) := by decide +kernel
theorem dX7_reach_38 : decode cX7_reach 38 = .ok (.istore 5, 2) := by decide +kernel
theorem dX7_reach_40 : decode cX7_reach 40 = .ok (.iload 5, 2) := by decide +kernel
theorem dX7_reach_42 : decode cX7_reach 42 = .ok (.sipush 1287, 3) := by decide +kernel
theorem dX7_reach_45 : decode cX7_reach 45 = .ok (.if_icmp .ge 49, 3) := by decide +kernel
theorem dX7_reach_48 : decode cX7_reach 48 = .ok (.aload_n 0, 1) := by decide +kernel
theorem dX7_reach_49 : decode cX7_reach 49 = .ok (.getfield 28, 3) := by decide +kernel
theorem dX7_reach_52 : decode cX7_reach 52 = .ok (.invokevirtual 184, 3) := by decide +kernel
theorem dX7_reach_55 : decode cX7_reach 55 = .ok (.ifCond .eq 39, 3) := by decide +kernel
theorem dX7_reach_58 : decode cX7_reach 58 = .ok (.iload_n 3, 1) := by decide +kernel
theorem dX7_reach_59 : decode cX7_reach 59 = .ok (.aload_n 0, 1) := by decide +kernel
theorem dX7_reach_60 : decode cX7_reach 60 = .ok (.getfield 28, 3) := by decide +kernel
theorem dX7_reach_63 : decode cX7_reach 63 = .ok (.getfield 187, 3) := by decide +kernel
theorem dX7_reach_66 : decode cX7_reach 66 = .ok (.iload_n 1, 1) := by decide +kernel
theorem dX7_reach_67 : decode cX7_reach 67 = .ok (.iaload, 1) := by decide +kernel
theorem dX7_reach_68 : decode cX7_reach 68 = .ok (.invokestatic 178, 3) := by decide +kernel
theorem dX7_reach_71 : decode cX7_reach 71 = .ok (.istore_n 3, 1) := by decide +kernel
theorem dX7_reach_72 : decode cX7_reach 72 = .ok (.iload 4, 2) := by decide +kernel
theorem dX7_reach_74 : decode cX7_reach 74 = .ok (.aload_n 0, 1) := by decide +kernel
theorem dX7_reach_75 : decode cX7_reach 75 = .ok (.getfield 28, 3) := by decide +kernel
theorem dX7_reach_78 : decode cX7_reach 78 = .ok (.getfield 187, 3) := by decide +kernel
theorem dX7_reach_81 : decode cX7_reach 81 = .ok (.iload_n 1, 1) := by decide +kernel
theorem dX7_reach_82 : decode cX7_reach 82 = .ok (.iaload, 1) := by decide +kernel
theorem dX7_reach_83 : decode cX7_reach 83 = .ok (.invokestatic 194, 3) := by decide +kernel
theorem dX7_reach_86 : decode cX7_reach 86 = .ok (.istore 4, 2) := by decide +kernel
theorem dX7_reach_88 : decode cX7_reach 88 = .ok (.iinc 5 1, 3) := by decide +kernel
theorem dX7_reach_91 : decode cX7_reach 91 = .ok (.goto (-51), 3) := by decide +kernel
theorem dX7_reach_94 : decode cX7_reach 94 = .ok (.iload_n 2, 1) := by decide +kernel
theorem dX7_reach_95 : decode cX7_reach 95 = .ok (.ifCond .ne 7, 3) := by decide +kernel
theorem dX7_reach_98 : decode cX7_reach 98 = .ok (.iload_n 3, 1) := by decide +kernel
theorem dX7_reach_99 : decode cX7_reach 99 = .ok (.goto 5, 3) := by decide +kernel
theorem dX7_reach_102 : decode cX7_reach 102 = .ok (.iload 4, 2) := by decide +kernel
theorem dX7_reach_104 : decode cX7_reach 104 = .ok (.ireturn, 1) := by decide +kernel
theorem dX7_off_0 : decode cX7_off 0 = .ok (.iload_n 1, 1) := by decide +kernel
theorem dX7_off_1 : decode cX7_off 1 = .ok (.invokestatic 188, 3) := by decide +kernel
theorem dX7_off_4 : decode cX7_off 4 = .ok (.ifCond .ne 6, 3) := by decide +kernel
theorem dX7_off_7 : decode cX7_off 7 = .ok (.ldc 64, 2) := by decide +kernel
theorem dX7_off_9 : decode cX7_off 9 = .ok (.ireturn, 1) := by decide +kernel
theorem dX7_off_10 : decode cX7_off 10 = .ok (.new 197, 3) := by decide +kernel
theorem dX7_off_13 : decode cX7_off 13 = .ok (.dup, 1) := by decide +kernel
theorem dX7_off_14 : decode cX7_off 14 = .ok (.invokespecial 199, 3) := by decide +kernel
theorem dX7_off_17 : decode cX7_off 17 = .ok (.astore_n 2, 1) := by decide +kernel
theorem dX7_off_18 : decode cX7_off 18 = .ok (.aload_n 0, 1) := by decide +kernel
theorem dX7_off_19 : decode cX7_off 19 = .ok (.getfield 12, 3) := by decide +kernel
theorem dX7_off_22 : decode cX7_off 22 = .ok (.getfield 80, 3) := by decide +kernel
theorem dX7_off_25 : decode cX7_off 25 = .ok (.ifCond .eq 14, 3) := by decide +kernel
theorem dX7_off_28 : decode cX7_off 28 = .ok (.aload_n 0, 1) := by decide +kernel
theorem dX7_off_29 : decode cX7_off 29 = .ok (.getfield 12, 3) := by decide +kernel
theorem dX7_off_32 : decode cX7_off 32 = .ok (.getfield 83, 3) := by decide +kernel
theorem dX7_off_35 : decode cX7_off 35 = .ok (.aload_n 2, 1) := by decide +kernel
theorem dX7_off_36 : decode cX7_off 36 = .ok (.invokevirtual 200, 3) := by decide +kernel
theorem dX7_off_39 : decode cX7_off 39 = .ok (.iconst 0, 1) := by decide +kernel
theorem dX7_off_40 : decode cX7_off 40 = .ok (.istore_n 3, 1) := by decide +kernel
theorem dX7_off_41 : decode cX7_off 41 = .ok (.iload_n 3, 1) := by decide +kernel
theorem dX7_off_42 : decode cX7_off 42 = .ok (.aload_n 0, 1) := by decide +kernel
theorem dX7_off_43 : decode cX7_off 43 = .ok (.getfield 12, 3) := by decide +kernel
theorem dX7_off_46 : decode cX7_off 46 = .ok (.getfield 68, 3) := by decide +kernel
theorem dX7_off_49 : decode cX7_off 49 = .ok (.if_icmp .ge 22, 3) := by decide +kernel
theorem dX7_off_52 : decode cX7_off 52 = .ok (.aload_n 0, 1) := by decide +kernel
theorem dX7_off_53 : decode cX7_off 53 = .ok (.getfield 12, 3) := by decide +kernel
theorem dX7_off_56 : decode cX7_off 56 = .ok (.getfield 72, 3) := by decide +kernel
theorem dX7_off_59 : decode cX7_off 59 = .ok (.iload_n 3, 1) := by decide +kernel
theorem dX7_off_60 : decode cX7_off 60 = .ok (.aaload, 1) := by decide +kernel
theorem dX7_off_61 : decode cX7_off 61 = .ok (.aload_n 2, 1) := by decide +kernel
theorem dX7_off_62 : decode cX7_off 62 = .ok (.invokevirtual 200, 3) := by decide +kernel
theorem dX7_off_65 : decode cX7_off 65 = .ok (.iinc 3 1, 3) := by decide +kernel
theorem dX7_off_68 : decode cX7_off 68 = .ok (.goto (-27), 3) := by decide +kernel
theorem dX7_off_71 : decode cX7_off 71 = .ok (.aload_n 2, 1) := by decide +kernel
theorem dX7_off_72 : decode cX7_off 72 = .ok (.iload_n 1, 1) := by decide +kernel
theorem dX7_off_73 : decode cX7_off 73 = .ok (.invokevirtual 204, 3) := by decide +kernel
theorem dX7_off_76 : decode cX7_off 76 = .ok (.ireturn, 1) := by decide +kernel
theorem dX7_lost_0 : decode cX7_lost 0 = .ok (.iload_n 1, 1) := by decide +kernel
theorem dX7_lost_1 : decode cX7_lost 1 = .ok (.ifCond .lt 38, 3) := by decide +kernel
theorem dX7_lost_4 : decode cX7_lost 4 = .ok (.iload_n 1, 1) := by decide +kernel
theorem dX7_lost_5 : decode cX7_lost 5 = .ok (.bipush 6, 2) := by decide +kernel
theorem dX7_lost_7 : decode cX7_lost 7 = .ok (.if_icmp .gt 32, 3) := by decide +kernel
theorem dX7_lost_10 : decode cX7_lost 10 = .ok (.iload_n 1, 1) := by decide +kernel
theorem dX7_lost_11 : decode cX7_lost 11 = .ok (.aload_n 0, 1) := by decide +kernel
theorem dX7_lost_12 : decode cX7_lost 12 = .ok (.getfield 12, 3) := by decide +kernel
theorem dX7_lost_15 : decode cX7_lost 15 = .ok (.invokevirtual 137, 3) := by decide +kernel
theorem dX7_lost_18 : decode cX7_lost 18 = .ok (.if_icmp .gt 21, 3) := by decide +kernel
theorem dX7_lost_21 : decode cX7_lost 21 = .ok (.iload_n 2, 1) := by decide +kernel
theorem dX7_lost_22 : decode cX7_lost 22 = .ok (.ifCond .lt 17, 3) := by decide +kernel
theorem dX7_lost_25 : decode cX7_lost 25 = .ok (.iload_n 2, 1) := by decide +kernel
theorem dX7_lost_26 : decode cX7_lost 26 = .ok (.bipush 10, 2) := by decide +kernel
theorem dX7_lost_28 : decode cX7_lost 28 = .ok (.if_icmp .gt 11, 3) := by decide +kernel
theorem dX7_lost_31 : decode cX7_lost 31 = .ok (.iload 6, 2) := by decide +kernel
theorem dX7_lost_33 : decode cX7_lost 33 = .ok (.invokestatic 188, 3) := by decide +kernel
theorem dX7_lost_36 : decode cX7_lost 36 = .ok (.ifCond .ne 6, 3) := by decide +kernel
theorem dX7_lost_39 : decode cX7_lost 39 = .ok (.ldc 64, 2) := by decide +kernel
theorem dX7_lost_41 : decode cX7_lost 41 = .ok (.ireturn, 1) := by decide +kernel
theorem dX7_lost_42 : decode cX7_lost 42 = .ok (.aload_n 0, 1) := by decide +kernel
theorem dX7_lost_43 : decode cX7_lost 43 = .ok (.iload_n 1, 1) := by decide +kernel
theorem dX7_lost_44 : decode cX7_lost 44 = .ok (.invokevirtual 207, 3) := by decide +kernel
theorem dX7_lost_47 : decode cX7_lost 47 = .ok (.iconst 0, 1) := by decide +kernel
theorem dX7_lost_48 : decode cX7_lost 48 = .ok (.istore 7, 2) := by decide +kernel
theorem dX7_lost_50 : decode cX7_lost 50 = .ok (.iconst 1, 1) := by decide +kernel
theorem dX7_lost_51 : decode cX7_lost 51 = .ok (.istore 8, 2) := by decide +kernel
theorem dX7_lost_53 : decode cX7_lost 53 = .ok (.iconst 0, 1) := by decide +kernel
theorem dX7_lost_54 : decode cX7_lost 54 = .ok (.istore 9, 2) := by decide +kernel
theorem dX7_lost_56 : decode cX7_lost 56 = .ok (.iload 9, 2) := by decide +kernel
theorem dX7_lost_58 : decode cX7_lost 58 = .ok (.iload_n 1, 1) := by decide +kernel
theorem dX7_lost_59 : decode cX7_lost 59 = .ok (.if_icmp .ge 16, 3) := by decide +kernel
theorem dX7_lost_62 : decode cX7_lost 62 = .ok (.iload 8, 2) := by decide +kernel
theorem dX7_lost_64 : decode cX7_lost 64 = .ok (.bipush 10, 2) := by decide +kernel
theorem dX7_lost_66 : decode cX7_lost 66 = .ok (.imul, 1) := by decide +kernel
theorem dX7_lost_67 : decode cX7_lost 67 = .ok (.istore 8, 2) := by decide +kernel
theorem dX7_lost_69 : decode cX7_lost 69 = .ok (.iinc 9 1, 3) := by decide +kernel
theorem dX7_lost_72 : decode cX7_lost 72 = .ok (.goto (-16), 3) := by decide +kernel
theorem dX7_lost_75 : decode cX7_lost 75 = .ok (.iconst 0, 1) := by decide +kernel
theorem dX7_lost_76 : decode cX7_lost 76 = .ok (.istore 9, 2) := by decide +kernel
theorem dX7_lost_78 : decode cX7_lost 78 = .ok (.iload 9, 2) := by decide +kernel
theorem dX7_lost_80 : decode cX7_lost 80 = .ok (.iconst 1, 1) := by decide +kernel
theorem dX7_lost_81 : decode cX7_lost 81 = .ok (.iload_n 1, 1) := by decide +kernel
theorem dX7_lost_82 : decode cX7_lost 82 = .ok (.ishl, 1) := by decide +kernel
theorem dX7_lost_83 : decode cX7_lost 83 = .ok (.if_icmp .ge 59, 3) := by decide +kernel
theorem dX7_lost_86 : decode cX7_lost 86 = .ok (.aload_n 0, 1) := by decide +kernel
theorem dX7_lost_87 : decode cX7_lost 87 = .ok (.iload 9, 2) := by decide +kernel
theorem dX7_lost_89 : decode cX7_lost 89 = .ok (.iload_n 1, 1) := by decide +kernel
theorem dX7_lost_90 : decode cX7_lost 90 = .ok (.iconst 0, 1) := by decide +kernel
theorem dX7_lost_91 : decode cX7_lost 91 = .ok (.invokevirtual 211, 3) := by decide +kernel
theorem dX7_lost_94 : decode cX7_lost 94 = .ok (.iload_n 3, 1) := by decide +kernel
theorem dX7_lost_95 : decode cX7_lost 95 = .ok (.if_icmp .ne 41, 3) := by decide +kernel
theorem dX7_lost_98 : decode cX7_lost 98 = .ok (.aload_n 0, 1) := by decide +kernel
theorem dX7_lost_99 : decode cX7_lost 99 = .ok (.iload 9, 2) := by decide +kernel
theorem dX7_lost_101 : decode cX7_lost 101 = .ok (.iload_n 1, 1) := by decide +kernel
theorem dX7_lost_102 : decode cX7_lost 102 = .ok (.iconst 1, 1) := by decide +kernel
theorem dX7_lost_103 : decode cX7_lost 103 = .ok (.invokevirtual 211, 3) := by decide +kernel
theorem dX7_lost_106 : decode cX7_lost 106 = .ok (.iload 4, 2) := by decide +kernel
theorem dX7_lost_108 : decode cX7_lost 108 = .ok (.if_icmp .ne 28, 3) := by decide +kernel
theorem dX7_lost_111 : decode cX7_lost 111 = .ok (.aload_n 0, 1) := by decide +kernel
theorem dX7_lost_112 : decode cX7_lost 112 = .ok (.iload 9, 2) := by decide +kernel
theorem dX7_lost_114 : decode cX7_lost 114 = .ok (.iload_n 1, 1) := by decide +kernel
theorem dX7_lost_115 : decode cX7_lost 115 = .ok (.iconst 2, 1) := by decide +kernel
theorem dX7_lost_116 : decode cX7_lost 116 = .ok (.invokevirtual 211, 3) := by decide +kernel
theorem dX7_lost_119 : decode cX7_lost 119 = .ok (.iload 5, 2) := by decide +kernel
theorem dX7_lost_121 : decode cX7_lost 121 = .ok (.if_icmp .ne 15, 3) := by decide +kernel
theorem dX7_lost_124 : decode cX7_lost 124 = .ok (.iload 7, 2) := by decide +kernel
theorem dX7_lost_126 : decode cX7_lost 126 = .ok (.iload 9, 2) := by decide +kernel
theorem dX7_lost_128 : decode cX7_lost 128 = .ok (.iload_n 1, 1) := by decide +kernel
theorem dX7_lost_129 : decode cX7_lost 129 = .ok (.iload_n 2, 1) := by decide +kernel
theorem dX7_lost_130 : decode cX7_lost 130 = .ok (.invokestatic 215, 3) := by decide +kernel
theorem dX7_lost_133 : decode cX7_lost 133 = .ok (.iadd, 1) := by decide +kernel
theorem dX7_lost_134 : decode cX7_lost 134 = .ok (.istore 7, 2) := by decide +kernel
theorem dX7_lost_136 : decode cX7_lost 136 = .ok (.iinc 9 1, 3) := by decide +kernel
theorem dX7_lost_139 : decode cX7_lost 139 = .ok (.goto (-61), 3) := by decide +kernel
theorem dX7_lost_142 : decode cX7_lost 142 = .ok (.new 197, 3) := by decide +kernel
theorem dX7_lost_145 : decode cX7_lost 145 = .ok (.dup, 1) := by decide +kernel
theorem dX7_lost_146 : decode cX7_lost 146 = .ok (.invokespecial 199, 3) := by decide +kernel
theorem dX7_lost_149 : decode cX7_lost 149 = .ok (.astore 9, 2) := by decide +kernel
theorem dX7_lost_151 : decode cX7_lost 151 = .ok (.aload 9, 2) := by decide +kernel
theorem dX7_lost_153 : decode cX7_lost 153 = .ok (.iload 7, 2) := by decide +kernel
theorem dX7_lost_155 : decode cX7_lost 155 = .ok (.putfield 218, 3) := by decide +kernel
theorem dX7_lost_158 : decode cX7_lost 158 = .ok (.aload 9, 2) := by decide +kernel
theorem dX7_lost_160 : decode cX7_lost 160 = .ok (.iload 8, 2) := by decide +kernel
theorem dX7_lost_162 : decode cX7_lost 162 = .ok (.putfield 221, 3) := by decide +kernel
theorem dX7_lost_165 : decode cX7_lost 165 = .ok (.aload 9, 2) := by decide +kernel
theorem dX7_lost_167 : decode cX7_lost 167 = .ok (.iload 6, 2) := by decide +kernel
theorem dX7_lost_169 : decode cX7_lost 169 = .ok (.invokevirtual 204, 3) := by decide +kernel
theorem dX7_lost_172 : decode cX7_lost 172 = .ok (.ireturn, 1) := by decide +kernel
theorem dX7_image_0 : decode cX7_image 0 = .ok (.aload_n 0, 1) := by decide +kernel
theorem dX7_image_1 : decode cX7_image 1 = .ok (.getfield 49, 3) := by decide +kernel
theorem dX7_image_4 : decode cX7_image 4 = .ok (.aload_n 0, 1) := by decide +kernel
theorem dX7_image_5 : decode cX7_image 5 = .ok (.getfield 12, 3) := by decide +kernel
theorem dX7_image_8 : decode cX7_image 8 = .ok (.invokevirtual 224, 3) := by decide +kernel
theorem dX7_image_11 : decode cX7_image 11 = .ok (.aload_n 0, 1) := by decide +kernel
theorem dX7_image_12 : decode cX7_image 12 = .ok (.getfield 52, 3) := by decide +kernel
theorem dX7_image_15 : decode cX7_image 15 = .ok (.aload_n 0, 1) := by decide +kernel
theorem dX7_image_16 : decode cX7_image 16 = .ok (.getfield 19, 3) := by decide +kernel
theorem dX7_image_19 : decode cX7_image 19 = .ok (.invokevirtual 227, 3) := by decide +kernel
theorem dX7_image_22 : decode cX7_image 22 = .ok (.aload_n 0, 1) := by decide +kernel
theorem dX7_image_23 : decode cX7_image 23 = .ok (.iconst 1, 1) := by decide +kernel
theorem dX7_image_24 : decode cX7_image 24 = .ok (.putfield 55, 3) := by decide +kernel
theorem dX7_image_27 : decode cX7_image 27 = .ok (.iconst 1, 1) := by decide +kernel
theorem dX7_image_28 : decode cX7_image 28 = .ok (.ireturn, 1) := by decide +kernel
theorem dX7_restore_0 : decode cX7_restore 0 = .ok (.aload_n 0, 1) := by decide +kernel
theorem dX7_restore_1 : decode cX7_restore 1 = .ok (.getfield 55, 3) := by decide +kernel
theorem dX7_restore_4 : decode cX7_restore 4 = .ok (.ifCond .ne 6, 3) := by decide +kernel
theorem dX7_restore_7 : decode cX7_restore 7 = .ok (.ldc 87, 2) := by decide +kernel
theorem dX7_restore_9 : decode cX7_restore 9 = .ok (.ireturn, 1) := by decide +kernel
theorem dX7_restore_10 : decode cX7_restore 10 = .ok (.aload_n 0, 1) := by decide +kernel
theorem dX7_restore_11 : decode cX7_restore 11 = .ok (.getfield 12, 3) := by decide +kernel
theorem dX7_restore_14 : decode cX7_restore 14 = .ok (.aload_n 0, 1) := by decide +kernel
theorem dX7_restore_15 : decode cX7_restore 15 = .ok (.getfield 49, 3) := by decide +kernel
theorem dX7_restore_18 : decode cX7_restore 18 = .ok (.invokevirtual 224, 3) := by decide +kernel
theorem dX7_restore_21 : decode cX7_restore 21 = .ok (.aload_n 0, 1) := by decide +kernel
theorem dX7_restore_22 : decode cX7_restore 22 = .ok (.getfield 19, 3) := by decide +kernel
theorem dX7_restore_25 : decode cX7_restore 25 = .ok (.aload_n 0, 1) := by decide +kernel
theorem dX7_restore_26 : decode cX7_restore 26 = .ok (.getfield 52, 3) := by decide +kernel
theorem dX7_restore_29 : decode cX7_restore 29 = .ok (.invokevirtual 227, 3) := by decide +kernel
theorem dX7_restore_32 : decode cX7_restore 32 = .ok (.iconst 1, 1) := by decide +kernel
theorem dX7_restore_33 : decode cX7_restore 33 = .ok (.ireturn, 1) := by decide +kernel
theorem dX7_came_0 : decode cX7_came 0 = .ok (.iload_n 1, 1) := by decide +kernel
theorem dX7_came_1 : decode cX7_came 1 = .ok (.invokestatic 230, 3) := by decide +kernel
theorem dX7_came_4 : decode cX7_came 4 = .ok (.ifCond .eq 23, 3) := by decide +kernel
theorem dX7_came_7 : decode cX7_came 7 = .ok (.iload_n 2, 1) := by decide +kernel
theorem dX7_came_8 : decode cX7_came 8 = .ok (.invokestatic 233, 3) := by decide +kernel
theorem dX7_came_11 : decode cX7_came 11 = .ok (.ifCond .eq 16, 3) := by decide +kernel
theorem dX7_came_14 : decode cX7_came 14 = .ok (.iload 4, 2) := by decide +kernel
theorem dX7_came_16 : decode cX7_came 16 = .ok (.iconst 1, 1) := by decide +kernel
theorem dX7_came_17 : decode cX7_came 17 = .ok (.if_icmp .lt 10, 3) := by decide +kernel
theorem dX7_came_20 : decode cX7_came 20 = .ok (.iload 4, 2) := by decide +kernel
theorem dX7_came_22 : decode cX7_came 22 = .ok (.bipush 6, 2) := by decide +kernel
theorem dX7_came_24 : decode cX7_came 24 = .ok (.if_icmp .le 6, 3) := by decide +kernel
theorem dX7_came_27 : decode cX7_came 27 = .ok (.ldc 64, 2) := by decide +kernel
theorem dX7_came_29 : decode cX7_came 29 = .ok (.ireturn, 1) := by decide +kernel
theorem dX7_came_30 : decode cX7_came 30 = .ok (.aload_n 0, 1) := by decide +kernel
theorem dX7_came_31 : decode cX7_came 31 = .ok (.getfield 41, 3) := by decide +kernel
theorem dX7_came_34 : decode cX7_came 34 = .ok (.iload_n 1, 1) := by decide +kernel
theorem dX7_came_35 : decode cX7_came 35 = .ok (.aaload, 1) := by decide +kernel
theorem dX7_came_36 : decode cX7_came 36 = .ok (.astore 5, 2) := by decide +kernel
theorem dX7_came_38 : decode cX7_came 38 = .ok (.aload 5, 2) := by decide +kernel
theorem dX7_came_40 : decode cX7_came 40 = .ok (.iload_n 2, 1) := by decide +kernel
theorem dX7_came_41 : decode cX7_came 41 = .ok (.iload_n 3, 1) := by decide +kernel
theorem dX7_came_42 : decode cX7_came 42 = .ok (.iconst 2, 1) := by decide +kernel
theorem dX7_came_43 : decode cX7_came 43 = .ok (.iload 4, 2) := by decide +kernel
theorem dX7_came_45 : decode cX7_came 45 = .ok (.imul, 1) := by decide +kernel
theorem dX7_came_46 : decode cX7_came 46 = .ok (.invokevirtual 236, 3) := by decide +kernel
theorem dX7_came_49 : decode cX7_came 49 = .ok (.istore 6, 2) := by decide +kernel
theorem dX7_came_51 : decode cX7_came 51 = .ok (.iload 6, 2) := by decide +kernel
theorem dX7_came_53 : decode cX7_came 53 = .ok (.ifCond .eq 6, 3) := by decide +kernel
theorem dX7_came_56 : decode cX7_came 56 = .ok (.iload 6, 2) := by decide +kernel
theorem dX7_came_58 : decode cX7_came 58 = .ok (.ireturn, 1) := by decide +kernel
theorem dX7_came_59 : decode cX7_came 59 = .ok (.aload_n 0, 1) := by decide +kernel
theorem dX7_came_60 : decode cX7_came 60 = .ok (.getfield 12, 3) := by decide +kernel
theorem dX7_came_63 : decode cX7_came 63 = .ok (.getfield 80, 3) := by decide +kernel
theorem dX7_came_66 : decode cX7_came 66 = .ok (.ifCond .ne 13, 3) := by decide +kernel
theorem dX7_came_69 : decode cX7_came 69 = .ok (.aload_n 0, 1) := by decide +kernel
theorem dX7_came_70 : decode cX7_came 70 = .ok (.getfield 12, 3) := by decide +kernel
theorem dX7_came_73 : decode cX7_came 73 = .ok (.getfield 68, 3) := by decide +kernel
theorem dX7_came_76 : decode cX7_came 76 = .ok (.ifCond .ne 6, 3) := by decide +kernel
theorem dX7_came_79 : decode cX7_came 79 = .ok (.ldc 157, 2) := by decide +kernel
theorem dX7_came_81 : decode cX7_came 81 = .ok (.ireturn, 1) := by decide +kernel
theorem dX7_came_82 : decode cX7_came 82 = .ok (.iconst 0, 1) := by decide +kernel
theorem dX7_came_83 : decode cX7_came 83 = .ok (.istore 7, 2) := by decide +kernel
theorem dX7_came_85 : decode cX7_came 85 = .ok (.iconst 0, 1) := by decide +kernel
theorem dX7_came_86 : decode cX7_came 86 = .ok (.istore 8, 2) := by decide +kernel
theorem dX7_came_88 : decode cX7_came 88 = .ok (.iload 8, 2) := by decide +kernel
theorem dX7_came_90 : decode cX7_came 90 = .ok (.iconst 5, 1) := by decide +kernel
theorem dX7_came_91 : decode cX7_came 91 = .ok (.if_icmp .ge 32, 3) := by decide +kernel
theorem dX7_came_94 : decode cX7_came 94 = .ok (.aload_n 0, 1) := by decide +kernel
theorem dX7_came_95 : decode cX7_came 95 = .ok (.iload 8, 2) := by decide +kernel
theorem dX7_came_97 : decode cX7_came 97 = .ok (.aload 5, 2) := by decide +kernel
theorem dX7_came_99 : decode cX7_came 99 = .ok (.iload_n 3, 1) := by decide +kernel
theorem dX7_came_100 : decode cX7_came 100 = .ok (.iload 4, 2) := by decide +kernel
theorem dX7_came_102 : decode cX7_came 102 = .ok (.invokevirtual 239, 3) := by decide +kernel
theorem dX7_came_105 : decode cX7_came 105 = .ok (.ifCond .eq 12, 3) := by decide +kernel
theorem dX7_came_108 : decode cX7_came 108 = .ok (.iload 7, 2) := by decide +kernel
theorem dX7_came_110 : decode cX7_came 110 = .ok (.iconst 1, 1) := by decide +kernel
theorem dX7_came_111 : decode cX7_came 111 = .ok (.iload 8, 2) := by decide +kernel
theorem dX7_came_113 : decode cX7_came 113 = .ok (.ishl, 1) := by decide +kernel
theorem dX7_came_114 : decode cX7_came 114 = .ok (.ior, 1) := by decide +kernel
theorem dX7_came_115 : decode cX7_came 115 = .ok (.istore 7, 2) := by decide +kernel
theorem dX7_came_117 : decode cX7_came 117 = .ok (.iinc 8 1, 3) := by decide +kernel
theorem dX7_came_120 : decode cX7_came 120 = .ok (.goto (-32), 3) := by decide +kernel
theorem dX7_came_123 : decode cX7_came 123 = .ok (.iload 7, 2) := by decide +kernel
theorem dX7_came_125 : decode cX7_came 125 = .ok (.ireturn, 1) := by decide +kernel
theorem dX7_film_0 : decode cX7_film 0 = .ok (.iload_n 2, 1) := by decide +kernel
theorem dX7_film_1 : decode cX7_film 1 = .ok (.invokestatic 230, 3) := by decide +kernel
theorem dX7_film_4 : decode cX7_film 4 = .ok (.ifCond .eq 21, 3) := by decide +kernel
theorem dX7_film_7 : decode cX7_film 7 = .ok (.iload_n 3, 1) := by decide +kernel
theorem dX7_film_8 : decode cX7_film 8 = .ok (.invokestatic 233, 3) := by decide +kernel
theorem dX7_film_11 : decode cX7_film 11 = .ok (.ifCond .eq 14, 3) := by decide +kernel
theorem dX7_film_14 : decode cX7_film 14 = .ok (.iload_n 1, 1) := by decide +kernel
theorem dX7_film_15 : decode cX7_film 15 = .ok (.iconst 1, 1) := by decide +kernel
theorem dX7_film_16 : decode cX7_film 16 = .ok (.if_icmp .lt 9, 3) := by decide +kernel
theorem dX7_film_19 : decode cX7_film 19 = .ok (.iload_n 1, 1) := by decide +kernel
theorem dX7_film_20 : decode cX7_film 20 = .ok (.bipush 12, 2) := by decide +kernel
theorem dX7_film_22 : decode cX7_film 22 = .ok (.if_icmp .le 6, 3) := by decide +kernel
theorem dX7_film_25 : decode cX7_film 25 = .ok (.ldc 64, 2) := by decide +kernel
theorem dX7_film_27 : decode cX7_film 27 = .ok (.ireturn, 1) := by decide +kernel
theorem dX7_film_28 : decode cX7_film 28 = .ok (.aload_n 0, 1) := by decide +kernel
theorem dX7_film_29 : decode cX7_film 29 = .ok (.getfield 41, 3) := by decide +kernel
theorem dX7_film_32 : decode cX7_film 32 = .ok (.iload_n 2, 1) := by decide +kernel
theorem dX7_film_33 : decode cX7_film 33 = .ok (.aaload, 1) := by decide +kernel
theorem dX7_film_34 : decode cX7_film 34 = .ok (.astore 5, 2) := by decide +kernel
theorem dX7_film_36 : decode cX7_film 36 = .ok (.aload 5, 2) := by decide +kernel
theorem dX7_film_38 : decode cX7_film 38 = .ok (.iload_n 3, 1) := by decide +kernel
theorem dX7_film_39 : decode cX7_film 39 = .ok (.iload 4, 2) := by decide +kernel
theorem dX7_film_41 : decode cX7_film 41 = .ok (.iconst 2, 1) := by decide +kernel
theorem dX7_film_42 : decode cX7_film 42 = .ok (.iload_n 1, 1) := by decide +kernel
theorem dX7_film_43 : decode cX7_film 43 = .ok (.imul, 1) := by decide +kernel
theorem dX7_film_44 : decode cX7_film 44 = .ok (.invokevirtual 236, 3) := by decide +kernel
theorem dX7_film_47 : decode cX7_film 47 = .ok (.istore 6, 2) := by decide +kernel
theorem dX7_film_49 : decode cX7_film 49 = .ok (.iload 6, 2) := by decide +kernel
theorem dX7_film_51 : decode cX7_film 51 = .ok (.ifCond .eq 6, 3) := by decide +kernel
theorem dX7_film_54 : decode cX7_film 54 = .ok (.iload 6, 2) := by decide +kernel
theorem dX7_film_56 : decode cX7_film 56 = .ok (.ireturn, 1) := by decide +kernel
theorem dX7_film_57 : decode cX7_film 57 = .ok (.aload_n 0, 1) := by decide +kernel
theorem dX7_film_58 : decode cX7_film 58 = .ok (.getfield 28, 3) := by decide +kernel
theorem dX7_film_61 : decode cX7_film 61 = .ok (.invokevirtual 175, 3) := by decide +kernel
theorem dX7_film_64 : decode cX7_film 64 = .ok (.iconst 0, 1) := by decide +kernel
theorem dX7_film_65 : decode cX7_film 65 = .ok (.istore 7, 2) := by decide +kernel
theorem dX7_film_67 : decode cX7_film 67 = .ok (.iload 7, 2) := by decide +kernel
theorem dX7_film_69 : decode cX7_film 69 = .ok (.iload_n 1, 1) := by decide +kernel
theorem dX7_film_70 : decode cX7_film 70 = .ok (.if_icmp .ge 63, 3) := by decide +kernel
theorem dX7_film_73 : decode cX7_film 73 = .ok (.aload_n 0, 1) := by decide +kernel
theorem dX7_film_74 : decode cX7_film 74 = .ok (.getfield 28, 3) := by decide +kernel
theorem dX7_film_77 : decode cX7_film 77 = .ok (.invokevirtual 184, 3) := by decide +kernel
theorem dX7_film_80 : decode cX7_film 80 = .ok (.pop, 1) := by decide +kernel
theorem dX7_film_81 : decode cX7_film 81 = .ok (.aload 5, 2) := by decide +kernel
theorem dX7_film_83 : decode cX7_film 83 = .ok (.iload 4, 2) := by decide +kernel
theorem dX7_film_85 : decode cX7_film 85 = .ok (.iconst 2, 1) := by decide +kernel
theorem dX7_film_86 : decode cX7_film 86 = .ok (.iload 7, 2) := by decide +kernel
theorem dX7_film_88 : decode cX7_film 88 = .ok (.imul, 1) := by decide +kernel
theorem dX7_film_89 : decode cX7_film 89 = .ok (.iadd, 1) := by decide +kernel
theorem dX7_film_90 : decode cX7_film 90 = .ok (.aload_n 0, 1) := by decide +kernel
theorem dX7_film_91 : decode cX7_film 91 = .ok (.getfield 28, 3) := by decide +kernel
theorem dX7_film_94 : decode cX7_film 94 = .ok (.getfield 187, 3) := by decide +kernel
theorem dX7_film_97 : decode cX7_film 97 = .ok (.iconst 0, 1) := by decide +kernel
theorem dX7_film_98 : decode cX7_film 98 = .ok (.iaload, 1) := by decide +kernel
theorem dX7_film_99 : decode cX7_film 99 = .ok (.i2l, 1) := by decide +kernel
theorem dX7_film_100 : decode cX7_film 100 = .ok (.invokevirtual 243, 3) := by decide +kernel
theorem dX7_film_103 : decode cX7_film 103 = .ok (.aload 5, 2) := by decide +kernel
theorem dX7_film_105 : decode cX7_film 105 = .ok (.iload 4, 2) := by decide +kernel
theorem dX7_film_107 : decode cX7_film 107 = .ok (.iconst 2, 1) := by decide +kernel
theorem dX7_film_108 : decode cX7_film 108 = .ok (.iload 7, 2) := by decide +kernel
theorem dX7_film_110 : decode cX7_film 110 = .ok (.imul, 1) := by decide +kernel
theorem dX7_film_111 : decode cX7_film 111 = .ok (.iadd, 1) := by decide +kernel
theorem dX7_film_112 : decode cX7_film 112 = .ok (.iconst 1, 1) := by decide +kernel
theorem dX7_film_113 : decode cX7_film 113 = .ok (.iadd, 1) := by decide +kernel
theorem dX7_film_114 : decode cX7_film 114 = .ok (.aload_n 0, 1) := by decide +kernel
theorem dX7_film_115 : decode cX7_film 115 = .ok (.getfield 28, 3) := by decide +kernel
theorem dX7_film_118 : decode cX7_film 118 = .ok (.getfield 187, 3) := by decide +kernel
theorem dX7_film_121 : decode cX7_film 121 = .ok (.iconst 1, 1) := by decide +kernel
theorem dX7_film_122 : decode cX7_film 122 = .ok (.iaload, 1) := by decide +kernel
theorem dX7_film_123 : decode cX7_film 123 = .ok (.i2l, 1) := by decide +kernel
theorem dX7_film_124 : decode cX7_film 124 = .ok (.invokevirtual 243, 3) := by decide +kernel
theorem dX7_film_127 : decode cX7_film 127 = .ok (.iinc 7 1, 3) := by decide +kernel
theorem dX7_film_130 : decode cX7_film 130 = .ok (.goto (-63), 3) := by decide +kernel
theorem dX7_film_133 : decode cX7_film 133 = .ok (.iconst 2, 1) := by decide +kernel
theorem dX7_film_134 : decode cX7_film 134 = .ok (.iload_n 1, 1) := by decide +kernel
theorem dX7_film_135 : decode cX7_film 135 = .ok (.imul, 1) := by decide +kernel
theorem dX7_film_136 : decode cX7_film 136 = .ok (.ireturn, 1) := by decide +kernel
theorem dX7_sheet_0 : decode cX7_sheet 0 = .ok (.iload_n 1, 1) := by decide +kernel
theorem dX7_sheet_1 : decode cX7_sheet 1 = .ok (.invokestatic 230, 3) := by decide +kernel
theorem dX7_sheet_4 : decode cX7_sheet 4 = .ok (.ifCond .eq 16, 3) := by decide +kernel
theorem dX7_sheet_7 : decode cX7_sheet 7 = .ok (.iload_n 2, 1) := by decide +kernel
theorem dX7_sheet_8 : decode cX7_sheet 8 = .ok (.invokestatic 233, 3) := by decide +kernel
theorem dX7_sheet_11 : decode cX7_sheet 11 = .ok (.ifCond .eq 9, 3) := by decide +kernel
theorem dX7_sheet_14 : decode cX7_sheet 14 = .ok (.iload_n 3, 1) := by decide +kernel
theorem dX7_sheet_15 : decode cX7_sheet 15 = .ok (.bipush 24, 2) := by decide +kernel
theorem dX7_sheet_17 : decode cX7_sheet 17 = .ok (.if_icmp .le 6, 3) := by decide +kernel
theorem dX7_sheet_20 : decode cX7_sheet 20 = .ok (.ldc 64, 2) := by decide +kernel
theorem dX7_sheet_22 : decode cX7_sheet 22 = .ok (.ireturn, 1) := by decide +kernel
theorem dX7_sheet_23 : decode cX7_sheet 23 = .ok (.iload_n 3, 1) := by decide +kernel
theorem dX7_sheet_24 : decode cX7_sheet 24 = .ok (.ifCond .ge 6, 3) := by decide +kernel
theorem dX7_sheet_27 : decode cX7_sheet 27 = .ok (.ldc 247, 2) := by decide +kernel
theorem dX7_sheet_29 : decode cX7_sheet 29 = .ok (.ireturn, 1) := by decide +kernel
theorem dX7_sheet_30 : decode cX7_sheet 30 = .ok (.aload_n 0, 1) := by decide +kernel
theorem dX7_sheet_31 : decode cX7_sheet 31 = .ok (.getfield 41, 3) := by decide +kernel
theorem dX7_sheet_34 : decode cX7_sheet 34 = .ok (.iload_n 1, 1) := by decide +kernel
theorem dX7_sheet_35 : decode cX7_sheet 35 = .ok (.aaload, 1) := by decide +kernel
theorem dX7_sheet_36 : decode cX7_sheet 36 = .ok (.iload_n 2, 1) := by decide +kernel
theorem dX7_sheet_37 : decode cX7_sheet 37 = .ok (.iload_n 3, 1) := by decide +kernel
theorem dX7_sheet_38 : decode cX7_sheet 38 = .ok (.invokevirtual 248, 3) := by decide +kernel
theorem dX7_sheet_41 : decode cX7_sheet 41 = .ok (.iload_n 3, 1) := by decide +kernel
theorem dX7_sheet_42 : decode cX7_sheet 42 = .ok (.ireturn, 1) := by decide +kernel
theorem dX7_drop_0 : decode cX7_drop 0 = .ok (.iload_n 1, 1) := by decide +kernel
theorem dX7_drop_1 : decode cX7_drop 1 = .ok (.invokestatic 230, 3) := by decide +kernel
theorem dX7_drop_4 : decode cX7_drop 4 = .ok (.ifCond .ne 6, 3) := by decide +kernel
theorem dX7_drop_7 : decode cX7_drop 7 = .ok (.ldc 64, 2) := by decide +kernel
theorem dX7_drop_9 : decode cX7_drop 9 = .ok (.ireturn, 1) := by decide +kernel
theorem dX7_drop_10 : decode cX7_drop 10 = .ok (.aload_n 0, 1) := by decide +kernel
theorem dX7_drop_11 : decode cX7_drop 11 = .ok (.getfield 41, 3) := by decide +kernel
theorem dX7_drop_14 : decode cX7_drop 14 = .ok (.iload_n 1, 1) := by decide +kernel
theorem dX7_drop_15 : decode cX7_drop 15 = .ok (.aaload, 1) := by decide +kernel
theorem dX7_drop_16 : decode cX7_drop 16 = .ok (.astore_n 2, 1) := by decide +kernel
theorem dX7_drop_17 : decode cX7_drop 17 = .ok (.aload_n 2, 1) := by decide +kernel
theorem dX7_drop_18 : decode cX7_drop 18 = .ok (.getfield 252, 3) := by decide +kernel
theorem dX7_drop_21 : decode cX7_drop 21 = .ok (.ifCond .ne 6, 3) := by decide +kernel
theorem dX7_drop_24 : decode cX7_drop 24 = .ok (.ldc 255, 2) := by decide +kernel
theorem dX7_drop_26 : decode cX7_drop 26 = .ok (.ireturn, 1) := by decide +kernel
theorem dX7_drop_27 : decode cX7_drop 27 = .ok (.aload_n 2, 1) := by decide +kernel
theorem dX7_drop_28 : decode cX7_drop 28 = .ok (.iconst 0, 1) := by decide +kernel
theorem dX7_drop_29 : decode cX7_drop 29 = .ok (.putfield 252, 3) := by decide +kernel
theorem dX7_drop_32 : decode cX7_drop 32 = .ok (.aload_n 2, 1) := by decide +kernel
theorem dX7_drop_33 : decode cX7_drop 33 = .ok (.getfield 256, 3) := by decide +kernel
theorem dX7_drop_36 : decode cX7_drop 36 = .ok (.ireturn, 1) := by decide +kernel
theorem dX7_item_0 : decode cX7_item 0 = .ok (.iload_n 1, 1) := by decide +kernel
theorem dX7_item_1 : decode cX7_item 1 = .ok (.invokestatic 230, 3) := by decide +kernel
theorem dX7_item_4 : decode cX7_item 4 = .ok (.ifCond .eq 10, 3) := by decide +kernel
theorem dX7_item_7 : decode cX7_item 7 = .ok (.iload_n 2, 1) := by decide +kernel
theorem dX7_item_8 : decode cX7_item 8 = .ok (.invokestatic 233, 3) := by decide +kernel
theorem dX7_item_11 : decode cX7_item 11 = .ok (.ifCond .ne 6, 3) := by decide +kernel
theorem dX7_item_14 : decode cX7_item 14 = .ok (.ldc 64, 2) := by decide +kernel
theorem dX7_item_16 : decode cX7_item 16 = .ok (.ireturn, 1) := by decide +kernel
theorem dX7_item_17 : decode cX7_item 17 = .ok (.aload_n 0, 1) := by decide +kernel
theorem dX7_item_18 : decode cX7_item 18 = .ok (.getfield 41, 3) := by decide +kernel
theorem dX7_item_21 : decode cX7_item 21 = .ok (.iload_n 1, 1) := by decide +kernel
theorem dX7_item_22 : decode cX7_item 22 = .ok (.aaload, 1) := by decide +kernel
theorem dX7_item_23 : decode cX7_item 23 = .ok (.iload_n 2, 1) := by decide +kernel
theorem dX7_item_24 : decode cX7_item 24 = .ok (.iload_n 3, 1) := by decide +kernel
theorem dX7_item_25 : decode cX7_item 25 = .ok (.iconst 1, 1) := by decide +kernel
theorem dX7_item_26 : decode cX7_item 26 = .ok (.invokevirtual 236, 3) := by decide +kernel
theorem dX7_item_29 : decode cX7_item 29 = .ok (.istore 6, 2) := by decide +kernel
theorem dX7_item_31 : decode cX7_item 31 = .ok (.iload 6, 2) := by decide +kernel
theorem dX7_item_33 : decode cX7_item 33 = .ok (.ifCond .eq 6, 3) := by decide +kernel
theorem dX7_item_36 : decode cX7_item 36 = .ok (.iload 6, 2) := by decide +kernel
theorem dX7_item_38 : decode cX7_item 38 = .ok (.ireturn, 1) := by decide +kernel
theorem dX7_item_39 : decode cX7_item 39 = .ok (.aload_n 0, 1) := by decide +kernel
theorem dX7_item_40 : decode cX7_item 40 = .ok (.getfield 41, 3) := by decide +kernel
theorem dX7_item_43 : decode cX7_item 43 = .ok (.iload_n 1, 1) := by decide +kernel
theorem dX7_item_44 : decode cX7_item 44 = .ok (.aaload, 1) := by decide +kernel
theorem dX7_item_45 : decode cX7_item 45 = .ok (.iload_n 3, 1) := by decide +kernel
theorem dX7_item_46 : decode cX7_item 46 = .ok (.lload 4, 2) := by decide +kernel
theorem dX7_item_48 : decode cX7_item 48 = .ok (.invokevirtual 243, 3) := by decide +kernel
theorem dX7_item_51 : decode cX7_item 51 = .ok (.iconst 1, 1) := by decide +kernel
theorem dX7_item_52 : decode cX7_item 52 = .ok (.ireturn, 1) := by decide +kernel
theorem dX7_copy_0 : decode cX7_copy 0 = .ok (.iload_n 1, 1) := by decide +kernel
theorem dX7_copy_1 : decode cX7_copy 1 = .ok (.invokestatic 230, 3) := by decide +kernel
theorem dX7_copy_4 : decode cX7_copy 4 = .ok (.ifCond .eq 10, 3) := by decide +kernel
theorem dX7_copy_7 : decode cX7_copy 7 = .ok (.iload_n 3, 1) := by decide +kernel
theorem dX7_copy_8 : decode cX7_copy 8 = .ok (.invokestatic 230, 3) := by decide +kernel
theorem dX7_copy_11 : decode cX7_copy 11 = .ok (.ifCond .ne 6, 3) := by decide +kernel
theorem dX7_copy_14 : decode cX7_copy 14 = .ok (.ldc 64, 2) := by decide +kernel
theorem dX7_copy_16 : decode cX7_copy 16 = .ok (.ireturn, 1) := by decide +kernel
theorem dX7_copy_17 : decode cX7_copy 17 = .ok (.aload_n 0, 1) := by decide +kernel
theorem dX7_copy_18 : decode cX7_copy 18 = .ok (.getfield 41, 3) := by decide +kernel
theorem dX7_copy_21 : decode cX7_copy 21 = .ok (.iload_n 1, 1) := by decide +kernel
theorem dX7_copy_22 : decode cX7_copy 22 = .ok (.aaload, 1) := by decide +kernel
theorem dX7_copy_23 : decode cX7_copy 23 = .ok (.astore 6, 2) := by decide +kernel
theorem dX7_copy_25 : decode cX7_copy 25 = .ok (.aload_n 0, 1) := by decide +kernel
theorem dX7_copy_26 : decode cX7_copy 26 = .ok (.getfield 41, 3) := by decide +kernel
theorem dX7_copy_29 : decode cX7_copy 29 = .ok (.iload_n 3, 1) := by decide +kernel
theorem dX7_copy_30 : decode cX7_copy 30 = .ok (.aaload, 1) := by decide +kernel
theorem dX7_copy_31 : decode cX7_copy 31 = .ok (.astore 7, 2) := by decide +kernel
theorem dX7_copy_33 : decode cX7_copy 33 = .ok (.aload 6, 2) := by decide +kernel
theorem dX7_copy_35 : decode cX7_copy 35 = .ok (.getfield 252, 3) := by decide +kernel
theorem dX7_copy_38 : decode cX7_copy 38 = .ok (.ifCond .eq 11, 3) := by decide +kernel
theorem dX7_copy_41 : decode cX7_copy 41 = .ok (.aload 7, 2) := by decide +kernel
theorem dX7_copy_43 : decode cX7_copy 43 = .ok (.getfield 252, 3) := by decide +kernel
theorem dX7_copy_46 : decode cX7_copy 46 = .ok (.ifCond .ne 6, 3) := by decide +kernel
theorem dX7_copy_49 : decode cX7_copy 49 = .ok (.ldc 255, 2) := by decide +kernel
theorem dX7_copy_51 : decode cX7_copy 51 = .ok (.ireturn, 1) := by decide +kernel
theorem dX7_copy_52 : decode cX7_copy 52 = .ok (.aload 6, 2) := by decide +kernel
theorem dX7_copy_54 : decode cX7_copy 54 = .ok (.getfield 259, 3) := by decide +kernel
theorem dX7_copy_57 : decode cX7_copy 57 = .ok (.aload 7, 2) := by decide +kernel
theorem dX7_copy_59 : decode cX7_copy 59 = .ok (.getfield 259, 3) := by decide +kernel
theorem dX7_copy_62 : decode cX7_copy 62 = .ok (.if_icmp .eq 7, 3) := by decide +kernel
theorem dX7_copy_65 : decode cX7_copy 65 = .ok (.ldc_w 262, 3) := by decide +kernel
theorem dX7_copy_68 : decode cX7_copy 68 = .ok (.ireturn, 1) := by decide +kernel
theorem dX7_copy_69 : decode cX7_copy 69 = .ok (.aload 6, 2) := by decide +kernel
theorem dX7_copy_71 : decode cX7_copy 71 = .ok (.iload_n 2, 1) := by decide +kernel
theorem dX7_copy_72 : decode cX7_copy 72 = .ok (.iload 5, 2) := by decide +kernel
theorem dX7_copy_74 : decode cX7_copy 74 = .ok (.invokevirtual 263, 3) := by decide +kernel
theorem dX7_copy_77 : decode cX7_copy 77 = .ok (.ifCond .eq 15, 3) := by decide +kernel
theorem dX7_copy_80 : decode cX7_copy 80 = .ok (.aload 7, 2) := by decide +kernel
theorem dX7_copy_82 : decode cX7_copy 82 = .ok (.iload 4, 2) := by decide +kernel
theorem dX7_copy_84 : decode cX7_copy 84 = .ok (.iload 5, 2) := by decide +kernel
theorem dX7_copy_86 : decode cX7_copy 86 = .ok (.invokevirtual 263, 3) := by decide +kernel
theorem dX7_copy_89 : decode cX7_copy 89 = .ok (.ifCond .ne 7, 3) := by decide +kernel
theorem dX7_copy_92 : decode cX7_copy 92 = .ok (.ldc_w 267, 3) := by decide +kernel
theorem dX7_copy_95 : decode cX7_copy 95 = .ok (.ireturn, 1) := by decide +kernel
theorem dX7_copy_96 : decode cX7_copy 96 = .ok (.aload 6, 2) := by decide +kernel
theorem dX7_copy_98 : decode cX7_copy 98 = .ok (.getfield 268, 3) := by decide +kernel
theorem dX7_copy_101 : decode cX7_copy 101 = .ok (.iload_n 2, 1) := by decide +kernel
theorem dX7_copy_102 : decode cX7_copy 102 = .ok (.aload 7, 2) := by decide +kernel
theorem dX7_copy_104 : decode cX7_copy 104 = .ok (.getfield 268, 3) := by decide +kernel
theorem dX7_copy_107 : decode cX7_copy 107 = .ok (.iload 4, 2) := by decide +kernel
theorem dX7_copy_109 : decode cX7_copy 109 = .ok (.iload 5, 2) := by decide +kernel
theorem dX7_copy_111 : decode cX7_copy 111 = .ok (.invokestatic 272, 3) := by decide +kernel
theorem dX7_copy_114 : decode cX7_copy 114 = .ok (.iload 5, 2) := by decide +kernel
theorem dX7_copy_116 : decode cX7_copy 116 = .ok (.ireturn, 1) := by decide +kernel
theorem dX7_isAxis_0 : decode cX7_isAxis 0 = .ok (.iload_n 0, 1) := by decide +kernel
theorem dX7_isAxis_1 : decode cX7_isAxis 1 = .ok (.ifCond .lt 12, 3) := by decide +kernel
theorem dX7_isAxis_4 : decode cX7_isAxis 4 = .ok (.iload_n 0, 1) := by decide +kernel
theorem dX7_isAxis_5 : decode cX7_isAxis 5 = .ok (.iconst 3, 1) := by decide +kernel
theorem dX7_isAxis_6 : decode cX7_isAxis 6 = .ok (.if_icmp .ge 7, 3) := by decide +kernel
theorem dX7_isAxis_9 : decode cX7_isAxis 9 = .ok (.iconst 1, 1) := by decide +kernel
theorem dX7_isAxis_10 : decode cX7_isAxis 10 = .ok (.goto 4, 3) := by decide +kernel
theorem dX7_isAxis_13 : decode cX7_isAxis 13 = .ok (.iconst 0, 1) := by decide +kernel
theorem dX7_isAxis_14 : decode cX7_isAxis 14 = .ok (.ireturn, 1) := by decide +kernel
theorem dX7_isKind_0 : decode cX7_isKind 0 = .ok (.iload_n 0, 1) := by decide +kernel
theorem dX7_isKind_1 : decode cX7_isKind 1 = .ok (.ifCond .lt 12, 3) := by decide +kernel
theorem dX7_isKind_4 : decode cX7_isKind 4 = .ok (.iload_n 0, 1) := by decide +kernel
theorem dX7_isKind_5 : decode cX7_isKind 5 = .ok (.iconst 5, 1) := by decide +kernel
theorem dX7_isKind_6 : decode cX7_isKind 6 = .ok (.if_icmp .ge 7, 3) := by decide +kernel
theorem dX7_isKind_9 : decode cX7_isKind 9 = .ok (.iconst 1, 1) := by decide +kernel
theorem dX7_isKind_10 : decode cX7_isKind 10 = .ok (.goto 4, 3) := by decide +kernel
theorem dX7_isKind_13 : decode cX7_isKind 13 = .ok (.iconst 0, 1) := by decide +kernel
theorem dX7_isKind_14 : decode cX7_isKind 14 = .ok (.ireturn, 1) := by decide +kernel
theorem dX7_isSide_0 : decode cX7_isSide 0 = .ok (.iload_n 0, 1) := by decide +kernel
theorem dX7_isSide_1 : decode cX7_isSide 1 = .ok (.ifCond .eq 8, 3) := by decide +kernel
theorem dX7_isSide_4 : decode cX7_isSide 4 = .ok (.iload_n 0, 1) := by decide +kernel
theorem dX7_isSide_5 : decode cX7_isSide 5 = .ok (.iconst 1, 1) := by decide +kernel
theorem dX7_isSide_6 : decode cX7_isSide 6 = .ok (.if_icmp .ne 7, 3) := by decide +kernel
theorem dX7_isSide_9 : decode cX7_isSide 9 = .ok (.iconst 1, 1) := by decide +kernel
theorem dX7_isSide_10 : decode cX7_isSide 10 = .ok (.goto 4, 3) := by decide +kernel
theorem dX7_isSide_13 : decode cX7_isSide 13 = .ok (.iconst 0, 1) := by decide +kernel
theorem dX7_isSide_14 : decode cX7_isSide 14 = .ok (.ireturn, 1) := by decide +kernel
theorem dX7_isSheet_0 : decode cX7_isSheet 0 = .ok (.iload_n 0, 1) := by decide +kernel
theorem dX7_isSheet_1 : decode cX7_isSheet 1 = .ok (.ifCond .lt 12, 3) := by decide +kernel
theorem dX7_isSheet_4 : decode cX7_isSheet 4 = .ok (.iload_n 0, 1) := by decide +kernel
theorem dX7_isSheet_5 : decode cX7_isSheet 5 = .ok (.iconst 4, 1) := by decide +kernel
theorem dX7_isSheet_6 : decode cX7_isSheet 6 = .ok (.if_icmp .ge 7, 3) := by decide +kernel
theorem dX7_isSheet_9 : decode cX7_isSheet 9 = .ok (.iconst 1, 1) := by decide +kernel
theorem dX7_isSheet_10 : decode cX7_isSheet 10 = .ok (.goto 4, 3) := by decide +kernel
theorem dX7_isSheet_13 : decode cX7_isSheet 13 = .ok (.iconst 0, 1) := by decide +kernel
theorem dX7_isSheet_14 : decode cX7_isSheet 14 = .ok (.ireturn, 1) := by decide +kernel
theorem dX7_isLane_0 : decode cX7_isLane 0 = .ok (.iload_n 0, 1) := by decide +kernel
theorem dX7_isLane_1 : decode cX7_isLane 1 = .ok (.ifCond .lt 12, 3) := by decide +kernel
theorem dX7_isLane_4 : decode cX7_isLane 4 = .ok (.iload_n 0, 1) := by decide +kernel
theorem dX7_isLane_5 : decode cX7_isLane 5 = .ok (.iconst 4, 1) := by decide +kernel
theorem dX7_isLane_6 : decode cX7_isLane 6 = .ok (.if_icmp .ge 7, 3) := by decide +kernel
theorem dX7_isLane_9 : decode cX7_isLane 9 = .ok (.iconst 1, 1) := by decide +kernel
theorem dX7_isLane_10 : decode cX7_isLane 10 = .ok (.goto 4, 3) := by decide +kernel
theorem dX7_isLane_13 : decode cX7_isLane 13 = .ok (.iconst 0, 1) := by decide +kernel
theorem dX7_isLane_14 : decode cX7_isLane 14 = .ok (.ireturn, 1) := by decide +kernel
theorem dX7_isWithin_0 : decode cX7_isWithin 0 = .ok (.iload_n 0, 1) := by decide +kernel
theorem dX7_isWithin_1 : decode cX7_isWithin 1 = .ok (.iload_n 1, 1) := by decide +kernel
theorem dX7_isWithin_2 : decode cX7_isWithin 2 = .ok (.ineg, 1) := by decide +kernel
theorem dX7_isWithin_3 : decode cX7_isWithin 3 = .ok (.if_icmp .lt 12, 3) := by decide +kernel
theorem dX7_isWithin_6 : decode cX7_isWithin 6 = .ok (.iload_n 0, 1) := by decide +kernel
theorem dX7_isWithin_7 : decode cX7_isWithin 7 = .ok (.iload_n 1, 1) := by decide +kernel
theorem dX7_isWithin_8 : decode cX7_isWithin 8 = .ok (.if_icmp .gt 7, 3) := by decide +kernel
theorem dX7_isWithin_11 : decode cX7_isWithin 11 = .ok (.iconst 1, 1) := by decide +kernel
theorem dX7_isWithin_12 : decode cX7_isWithin 12 = .ok (.goto 4, 3) := by decide +kernel
theorem dX7_isWithin_15 : decode cX7_isWithin 15 = .ok (.iconst 0, 1) := by decide +kernel
theorem dX7_isWithin_16 : decode cX7_isWithin 16 = .ok (.ireturn, 1) := by decide +kernel
theorem dX7_fits_0 : decode cX7_fits 0 = .ok (.iload_n 0, 1) := by decide +kernel
theorem dX7_fits_1 : decode cX7_fits 1 = .ok (.invokestatic 154, 3) := by decide +kernel
theorem dX7_fits_4 : decode cX7_fits 4 = .ok (.ifCond .ne 5, 3) := by decide +kernel
theorem dX7_fits_7 : decode cX7_fits 7 = .ok (.iconst 0, 1) := by decide +kernel
theorem dX7_fits_8 : decode cX7_fits 8 = .ok (.ireturn, 1) := by decide +kernel
theorem dX7_fits_9 : decode cX7_fits 9 = .ok (.iload_n 0, 1) := by decide +kernel
theorem dX7_fits_10 : decode cX7_fits 10 = .ok (.iconst 3, 1) := by decide +kernel
theorem dX7_fits_11 : decode cX7_fits 11 = .ok (.if_icmp .eq 8, 3) := by decide +kernel
theorem dX7_fits_14 : decode cX7_fits 14 = .ok (.iload_n 0, 1) := by decide +kernel
theorem dX7_fits_15 : decode cX7_fits 15 = .ok (.iconst 4, 1) := by decide +kernel
theorem dX7_fits_16 : decode cX7_fits 16 = .ok (.if_icmp .ne 46, 3) := by decide +kernel
theorem dX7_fits_19 : decode cX7_fits 19 = .ok (.iload_n 1, 1) := by decide +kernel
theorem dX7_fits_20 : decode cX7_fits 20 = .ok (.bipush 10, 2) := by decide +kernel
theorem dX7_fits_22 : decode cX7_fits 22 = .ok (.invokestatic 278, 3) := by decide +kernel
theorem dX7_fits_25 : decode cX7_fits 25 = .ok (.ifCond .eq 35, 3) := by decide +kernel
theorem dX7_fits_28 : decode cX7_fits 28 = .ok (.iload_n 2, 1) := by decide +kernel
theorem dX7_fits_29 : decode cX7_fits 29 = .ok (.bipush 10, 2) := by decide +kernel
theorem dX7_fits_31 : decode cX7_fits 31 = .ok (.invokestatic 278, 3) := by decide +kernel
theorem dX7_fits_34 : decode cX7_fits 34 = .ok (.ifCond .eq 26, 3) := by decide +kernel
theorem dX7_fits_37 : decode cX7_fits 37 = .ok (.iload_n 1, 1) := by decide +kernel
theorem dX7_fits_38 : decode cX7_fits 38 = .ok (.ifCond .ne 7, 3) := by decide +kernel
theorem dX7_fits_41 : decode cX7_fits 41 = .ok (.iload_n 2, 1) := by decide +kernel
theorem dX7_fits_42 : decode cX7_fits 42 = .ok (.ifCond .eq 18, 3) := by decide +kernel
theorem dX7_fits_45 : decode cX7_fits 45 = .ok (.iload_n 3, 1) := by decide +kernel
theorem dX7_fits_46 : decode cX7_fits 46 = .ok (.iconst 1, 1) := by decide +kernel
theorem dX7_fits_47 : decode cX7_fits 47 = .ok (.if_icmp .lt 13, 3) := by decide +kernel
theorem dX7_fits_50 : decode cX7_fits 50 = .ok (.iload_n 3, 1) := by decide +kernel
theorem dX7_fits_51 : decode cX7_fits 51 = .ok (.bipush 99, 2) := by decide +kernel
theorem dX7_fits_53 : decode cX7_fits 53 = .ok (.if_icmp .gt 7, 3) := by decide +kernel
theorem dX7_fits_56 : decode cX7_fits 56 = .ok (.iconst 1, 1) := by decide +kernel
theorem dX7_fits_57 : decode cX7_fits 57 = .ok (.goto 4, 3) := by decide +kernel
theorem dX7_fits_60 : decode cX7_fits 60 = .ok (.iconst 0, 1) := by decide +kernel
theorem dX7_fits_61 : decode cX7_fits 61 = .ok (.ireturn, 1) := by decide +kernel
theorem dX7_fits_62 : decode cX7_fits 62 = .ok (.iload_n 1, 1) := by decide +kernel
theorem dX7_fits_63 : decode cX7_fits 63 = .ok (.bipush 15, 2) := by decide +kernel
theorem dX7_fits_65 : decode cX7_fits 65 = .ok (.invokestatic 278, 3) := by decide +kernel
theorem dX7_fits_68 : decode cX7_fits 68 = .ok (.ifCond .eq 37, 3) := by decide +kernel
theorem dX7_fits_71 : decode cX7_fits 71 = .ok (.iload_n 2, 1) := by decide +kernel
theorem dX7_fits_72 : decode cX7_fits 72 = .ok (.bipush 15, 2) := by decide +kernel
theorem dX7_fits_74 : decode cX7_fits 74 = .ok (.invokestatic 278, 3) := by decide +kernel
theorem dX7_fits_77 : decode cX7_fits 77 = .ok (.ifCond .eq 28, 3) := by decide +kernel
theorem dX7_fits_80 : decode cX7_fits 80 = .ok (.iload_n 3, 1) := by decide +kernel
theorem dX7_fits_81 : decode cX7_fits 81 = .ok (.bipush 15, 2) := by decide +kernel
theorem dX7_fits_83 : decode cX7_fits 83 = .ok (.invokestatic 278, 3) := by decide +kernel
theorem dX7_fits_86 : decode cX7_fits 86 = .ok (.ifCond .eq 19, 3) := by decide +kernel
theorem dX7_fits_89 : decode cX7_fits 89 = .ok (.iload_n 1, 1) := by decide +kernel
theorem dX7_fits_90 : decode cX7_fits 90 = .ok (.ifCond .ne 11, 3) := by decide +kernel
theorem dX7_fits_93 : decode cX7_fits 93 = .ok (.iload_n 2, 1) := by decide +kernel
theorem dX7_fits_94 : decode cX7_fits 94 = .ok (.ifCond .ne 7, 3) := by decide +kernel
theorem dX7_fits_97 : decode cX7_fits 97 = .ok (.iload_n 3, 1) := by decide +kernel
theorem dX7_fits_98 : decode cX7_fits 98 = .ok (.ifCond .eq 7, 3) := by decide +kernel
theorem dX7_fits_101 : decode cX7_fits 101 = .ok (.iconst 1, 1) := by decide +kernel
theorem dX7_fits_102 : decode cX7_fits 102 = .ok (.goto 4, 3) := by decide +kernel
theorem dX7_fits_105 : decode cX7_fits 105 = .ok (.iconst 0, 1) := by decide +kernel
theorem dX7_fits_106 : decode cX7_fits 106 = .ok (.ireturn, 1) := by decide +kernel
theorem dX7_newcomerRefusal_0 : decode cX7_newcomerRefusal 0 = .ok (.iload_n 1, 1) := by decide +kernel
theorem dX7_newcomerRefusal_1 : decode cX7_newcomerRefusal 1 = .ok (.iload_n 2, 1) := by decide +kernel
theorem dX7_newcomerRefusal_2 : decode cX7_newcomerRefusal 2 = .ok (.iload_n 3, 1) := by decide +kernel
theorem dX7_newcomerRefusal_3 : decode cX7_newcomerRefusal 3 = .ok (.iload 4, 2) := by decide +kernel
theorem dX7_newcomerRefusal_5 : decode cX7_newcomerRefusal 5 = .ok (.invokestatic 281, 3) := by decide +kernel
theorem dX7_newcomerRefusal_8 : decode cX7_newcomerRefusal 8 = .ok (.ifCond .ne 6, 3) := by decide +kernel
theorem dX7_newcomerRefusal_11 : decode cX7_newcomerRefusal 11 = .ok (.ldc 64, 2) := by decide +kernel
theorem dX7_newcomerRefusal_13 : decode cX7_newcomerRefusal 13 = .ok (.ireturn, 1) := by decide +kernel
theorem dX7_newcomerRefusal_14 : decode cX7_newcomerRefusal 14 = .ok (.aload_n 0, 1) := by decide +kernel
theorem dX7_newcomerRefusal_15 : decode cX7_newcomerRefusal 15 = .ok (.getfield 12, 3) := by decide +kernel
theorem dX7_newcomerRefusal_18 : decode cX7_newcomerRefusal 18 = .ok (.getfield 68, 3) := by decide +kernel
theorem dX7_newcomerRefusal_21 : decode cX7_newcomerRefusal 21 = .ok (.bipush 12, 2) := by decide +kernel
theorem dX7_newcomerRefusal_23 : decode cX7_newcomerRefusal 23 = .ok (.if_icmp .ge 7, 3) := by decide +kernel
theorem dX7_newcomerRefusal_26 : decode cX7_newcomerRefusal 26 = .ok (.iconst 0, 1) := by decide +kernel
theorem dX7_newcomerRefusal_27 : decode cX7_newcomerRefusal 27 = .ok (.goto 5, 3) := by decide +kernel
theorem dX7_newcomerRefusal_30 : decode cX7_newcomerRefusal 30 = .ok (.ldc 95, 2) := by decide +kernel
theorem dX7_newcomerRefusal_32 : decode cX7_newcomerRefusal 32 = .ok (.ireturn, 1) := by decide +kernel
theorem dX7_sign_0 : decode cX7_sign 0 = .ok (.iload_n 0, 1) := by decide +kernel
theorem dX7_sign_1 : decode cX7_sign 1 = .ok (.ifCond .ne 5, 3) := by decide +kernel
theorem dX7_sign_4 : decode cX7_sign 4 = .ok (.iconst 0, 1) := by decide +kernel
theorem dX7_sign_5 : decode cX7_sign 5 = .ok (.ireturn, 1) := by decide +kernel
theorem dX7_sign_6 : decode cX7_sign 6 = .ok (.iload_n 0, 1) := by decide +kernel
theorem dX7_sign_7 : decode cX7_sign 7 = .ok (.ifCond .le 7, 3) := by decide +kernel
theorem dX7_sign_10 : decode cX7_sign 10 = .ok (.iconst 1, 1) := by decide +kernel
theorem dX7_sign_11 : decode cX7_sign 11 = .ok (.goto 4, 3) := by decide +kernel
theorem dX7_sign_14 : decode cX7_sign 14 = .ok (.iconst (-1), 1) := by decide +kernel
theorem dX7_sign_15 : decode cX7_sign 15 = .ok (.ireturn, 1) := by decide +kernel
theorem dX7_detail_0 : decode cX7_detail 0 = .ok (.iload_n 1, 1) := by decide +kernel
theorem dX7_detail_1 : decode cX7_detail 1 = .ok (.tableswitch 51 0 3 #[31, 36, 41, 46], 31) := by decide +kernel
theorem dX7_detail_32 : decode cX7_detail 32 = .ok (.aload_n 0, 1) := by decide +kernel
theorem dX7_detail_33 : decode cX7_detail 33 = .ok (.getfield 113, 3) := by decide +kernel
theorem dX7_detail_36 : decode cX7_detail 36 = .ok (.ireturn, 1) := by decide +kernel
theorem dX7_detail_37 : decode cX7_detail 37 = .ok (.aload_n 0, 1) := by decide +kernel
theorem dX7_detail_38 : decode cX7_detail 38 = .ok (.getfield 118, 3) := by decide +kernel
theorem dX7_detail_41 : decode cX7_detail 41 = .ok (.ireturn, 1) := by decide +kernel
theorem dX7_detail_42 : decode cX7_detail 42 = .ok (.aload_n 0, 1) := by decide +kernel
theorem dX7_detail_43 : decode cX7_detail 43 = .ok (.getfield 121, 3) := by decide +kernel
theorem dX7_detail_46 : decode cX7_detail 46 = .ok (.ireturn, 1) := by decide +kernel
theorem dX7_detail_47 : decode cX7_detail 47 = .ok (.aload_n 0, 1) := by decide +kernel
theorem dX7_detail_48 : decode cX7_detail 48 = .ok (.getfield 124, 3) := by decide +kernel
theorem dX7_detail_51 : decode cX7_detail 51 = .ok (.ireturn, 1) := by decide +kernel
theorem dX7_detail_52 : decode cX7_detail 52 = .ok (.aload_n 0, 1) := by decide +kernel
theorem dX7_detail_53 : decode cX7_detail 53 = .ok (.invokevirtual 162, 3) := by decide +kernel
theorem dX7_detail_56 : decode cX7_detail 56 = .ok (.ireturn, 1) := by decide +kernel
theorem dX7_doSteps_0 : decode cX7_doSteps 0 = .ok (.iconst 0, 1) := by decide +kernel
theorem dX7_doSteps_1 : decode cX7_doSteps 1 = .ok (.istore_n 2, 1) := by decide +kernel
theorem dX7_doSteps_2 : decode cX7_doSteps 2 = .ok (.aload_n 0, 1) := by decide +kernel
theorem dX7_doSteps_3 : decode cX7_doSteps 3 = .ok (.getfield 28, 3) := by decide +kernel
theorem dX7_doSteps_6 : decode cX7_doSteps 6 = .ok (.invokevirtual 175, 3) := by decide +kernel
theorem dX7_doSteps_9 : decode cX7_doSteps 9 = .ok (.iload_n 2, 1) := by decide +kernel
theorem dX7_doSteps_10 : decode cX7_doSteps 10 = .ok (.iload_n 1, 1) := by decide +kernel
theorem dX7_doSteps_11 : decode cX7_doSteps 11 = .ok (.if_icmp .ge 19, 3) := by decide +kernel
theorem dX7_doSteps_14 : decode cX7_doSteps 14 = .ok (.aload_n 0, 1) := by decide +kernel
theorem dX7_doSteps_15 : decode cX7_doSteps 15 = .ok (.getfield 28, 3) := by decide +kernel
theorem dX7_doSteps_18 : decode cX7_doSteps 18 = .ok (.invokevirtual 184, 3) := by decide +kernel
theorem dX7_doSteps_21 : decode cX7_doSteps 21 = .ok (.ifCond .eq 9, 3) := by decide +kernel
theorem dX7_doSteps_24 : decode cX7_doSteps 24 = .ok (.iinc 2 1, 3) := by decide +kernel
theorem dX7_doSteps_27 : decode cX7_doSteps 27 = .ok (.goto (-18), 3) := by decide +kernel
theorem dX7_doSteps_30 : decode cX7_doSteps 30 = .ok (.aload_n 0, 1) := by decide +kernel
theorem dX7_doSteps_31 : decode cX7_doSteps 31 = .ok (.getfield 28, 3) := by decide +kernel
theorem dX7_doSteps_34 : decode cX7_doSteps 34 = .ok (.invokevirtual 285, 3) := by decide +kernel
theorem dX7_doSteps_37 : decode cX7_doSteps 37 = .ok (.iload_n 2, 1) := by decide +kernel
theorem dX7_doSteps_38 : decode cX7_doSteps 38 = .ok (.ireturn, 1) := by decide +kernel
theorem dX7_driftOnce_0 : decode cX7_driftOnce 0 = .ok (.aload_n 0, 1) := by decide +kernel
theorem dX7_driftOnce_1 : decode cX7_driftOnce 1 = .ok (.getfield 12, 3) := by decide +kernel
theorem dX7_driftOnce_4 : decode cX7_driftOnce 4 = .ok (.aload_n 0, 1) := by decide +kernel
theorem dX7_driftOnce_5 : decode cX7_driftOnce 5 = .ok (.getfield 12, 3) := by decide +kernel
theorem dX7_driftOnce_8 : decode cX7_driftOnce 8 = .ok (.getfield 172, 3) := by decide +kernel
theorem dX7_driftOnce_11 : decode cX7_driftOnce 11 = .ok (.ldc_w 288, 3) := by decide +kernel
theorem dX7_driftOnce_14 : decode cX7_driftOnce 14 = .ok (.imul, 1) := by decide +kernel
theorem dX7_driftOnce_15 : decode cX7_driftOnce 15 = .ok (.sipush 12345, 3) := by decide +kernel
theorem dX7_driftOnce_18 : decode cX7_driftOnce 18 = .ok (.iadd, 1) := by decide +kernel
theorem dX7_driftOnce_19 : decode cX7_driftOnce 19 = .ok (.ldc_w 289, 3) := by decide +kernel
theorem dX7_driftOnce_22 : decode cX7_driftOnce 22 = .ok (.iand, 1) := by decide +kernel
theorem dX7_driftOnce_23 : decode cX7_driftOnce 23 = .ok (.putfield 172, 3) := by decide +kernel
theorem dX7_driftOnce_26 : decode cX7_driftOnce 26 = .ok (.aload_n 0, 1) := by decide +kernel
theorem dX7_driftOnce_27 : decode cX7_driftOnce 27 = .ok (.getfield 12, 3) := by decide +kernel
theorem dX7_driftOnce_30 : decode cX7_driftOnce 30 = .ok (.getfield 172, 3) := by decide +kernel
theorem dX7_driftOnce_33 : decode cX7_driftOnce 33 = .ok (.bipush 16, 2) := by decide +kernel
theorem dX7_driftOnce_35 : decode cX7_driftOnce 35 = .ok (.ishr, 1) := by decide +kernel
theorem dX7_driftOnce_36 : decode cX7_driftOnce 36 = .ok (.istore_n 1, 1) := by decide +kernel
theorem dX7_driftOnce_37 : decode cX7_driftOnce 37 = .ok (.iload_n 1, 1) := by decide +kernel
theorem dX7_driftOnce_38 : decode cX7_driftOnce 38 = .ok (.iconst 3, 1) := by decide +kernel
theorem dX7_driftOnce_39 : decode cX7_driftOnce 39 = .ok (.irem, 1) := by decide +kernel
theorem dX7_driftOnce_40 : decode cX7_driftOnce 40 = .ok (.ifCond .eq 12, 3) := by decide +kernel
