theorem dX7_driftOnce_43 : decode cX7_driftOnce 43 = .ok (.aload_n 0, 1) := by decide +kernel
theorem dX7_driftOnce_44 : decode cX7_driftOnce 44 = .ok (.iconst 1, 1) := by decide +kernel
theorem dX7_driftOnce_45 : decode cX7_driftOnce 45 = .ok (.invokevirtual 163, 3) := by decide +kernel
theorem dX7_driftOnce_48 : decode cX7_driftOnce 48 = .ok (.pop, 1) := by decide +kernel
theorem dX7_driftOnce_49 : decode cX7_driftOnce 49 = .ok (.goto 47, 3) := by decide +kernel
theorem dX7_driftOnce_52 : decode cX7_driftOnce 52 = .ok (.aload_n 0, 1) := by decide +kernel
theorem dX7_driftOnce_53 : decode cX7_driftOnce 53 = .ok (.getfield 12, 3) := by decide +kernel
theorem dX7_driftOnce_56 : decode cX7_driftOnce 56 = .ok (.getfield 68, 3) := by decide +kernel
theorem dX7_driftOnce_59 : decode cX7_driftOnce 59 = .ok (.bipush 12, 2) := by decide +kernel
theorem dX7_driftOnce_61 : decode cX7_driftOnce 61 = .ok (.if_icmp .ge 35, 3) := by decide +kernel
theorem dX7_driftOnce_64 : decode cX7_driftOnce 64 = .ok (.aload_n 0, 1) := by decide +kernel
theorem dX7_driftOnce_65 : decode cX7_driftOnce 65 = .ok (.getfield 12, 3) := by decide +kernel
theorem dX7_driftOnce_68 : decode cX7_driftOnce 68 = .ok (.iload_n 1, 1) := by decide +kernel
theorem dX7_driftOnce_69 : decode cX7_driftOnce 69 = .ok (.iconst 3, 1) := by decide +kernel
theorem dX7_driftOnce_70 : decode cX7_driftOnce 70 = .ok (.idiv, 1) := by decide +kernel
theorem dX7_driftOnce_71 : decode cX7_driftOnce 71 = .ok (.iconst 3, 1) := by decide +kernel
theorem dX7_driftOnce_72 : decode cX7_driftOnce 72 = .ok (.irem, 1) := by decide +kernel
theorem dX7_driftOnce_73 : decode cX7_driftOnce 73 = .ok (.iload_n 1, 1) := by decide +kernel
theorem dX7_driftOnce_74 : decode cX7_driftOnce 74 = .ok (.bipush 16, 2) := by decide +kernel
theorem dX7_driftOnce_76 : decode cX7_driftOnce 76 = .ok (.idiv, 1) := by decide +kernel
theorem dX7_driftOnce_77 : decode cX7_driftOnce 77 = .ok (.bipush 9, 2) := by decide +kernel
theorem dX7_driftOnce_79 : decode cX7_driftOnce 79 = .ok (.irem, 1) := by decide +kernel
theorem dX7_driftOnce_80 : decode cX7_driftOnce 80 = .ok (.iconst 4, 1) := by decide +kernel
theorem dX7_driftOnce_81 : decode cX7_driftOnce 81 = .ok (.isub, 1) := by decide +kernel
theorem dX7_driftOnce_82 : decode cX7_driftOnce 82 = .ok (.iload_n 1, 1) := by decide +kernel
theorem dX7_driftOnce_83 : decode cX7_driftOnce 83 = .ok (.sipush 256, 3) := by decide +kernel
theorem dX7_driftOnce_86 : decode cX7_driftOnce 86 = .ok (.idiv, 1) := by decide +kernel
theorem dX7_driftOnce_87 : decode cX7_driftOnce 87 = .ok (.bipush 9, 2) := by decide +kernel
theorem dX7_driftOnce_89 : decode cX7_driftOnce 89 = .ok (.irem, 1) := by decide +kernel
theorem dX7_driftOnce_90 : decode cX7_driftOnce 90 = .ok (.iconst 4, 1) := by decide +kernel
theorem dX7_driftOnce_91 : decode cX7_driftOnce 91 = .ok (.isub, 1) := by decide +kernel
theorem dX7_driftOnce_92 : decode cX7_driftOnce 92 = .ok (.iconst 1, 1) := by decide +kernel
theorem dX7_driftOnce_93 : decode cX7_driftOnce 93 = .ok (.invokevirtual 127, 3) := by decide +kernel
theorem dX7_driftOnce_96 : decode cX7_driftOnce 96 = .ok (.return_, 1) := by decide +kernel
theorem dX7_gatherMoves_0 : decode cX7_gatherMoves 0 = .ok (.aload_n 0, 1) := by decide +kernel
theorem dX7_gatherMoves_1 : decode cX7_gatherMoves 1 = .ok (.getfield 28, 3) := by decide +kernel
theorem dX7_gatherMoves_4 : decode cX7_gatherMoves 4 = .ok (.invokevirtual 175, 3) := by decide +kernel
theorem dX7_gatherMoves_7 : decode cX7_gatherMoves 7 = .ok (.iconst 0, 1) := by decide +kernel
theorem dX7_gatherMoves_8 : decode cX7_gatherMoves 8 = .ok (.istore_n 2, 1) := by decide +kernel
theorem dX7_gatherMoves_9 : decode cX7_gatherMoves 9 = .ok (.iload_n 2, 1) := by decide +kernel
theorem dX7_gatherMoves_10 : decode cX7_gatherMoves 10 = .ok (.iload_n 1, 1) := by decide +kernel
theorem dX7_gatherMoves_11 : decode cX7_gatherMoves 11 = .ok (.if_icmp .ge 55, 3) := by decide +kernel
theorem dX7_gatherMoves_14 : decode cX7_gatherMoves 14 = .ok (.iload_n 2, 1) := by decide +kernel
theorem dX7_gatherMoves_15 : decode cX7_gatherMoves 15 = .ok (.bipush 6, 2) := by decide +kernel
theorem dX7_gatherMoves_17 : decode cX7_gatherMoves 17 = .ok (.if_icmp .ge 49, 3) := by decide +kernel
theorem dX7_gatherMoves_20 : decode cX7_gatherMoves 20 = .ok (.aload_n 0, 1) := by decide +kernel
theorem dX7_gatherMoves_21 : decode cX7_gatherMoves 21 = .ok (.getfield 28, 3) := by decide +kernel
theorem dX7_gatherMoves_24 : decode cX7_gatherMoves 24 = .ok (.invokevirtual 184, 3) := by decide +kernel
theorem dX7_gatherMoves_27 : decode cX7_gatherMoves 27 = .ok (.pop, 1) := by decide +kernel
theorem dX7_gatherMoves_28 : decode cX7_gatherMoves 28 = .ok (.iconst 0, 1) := by decide +kernel
theorem dX7_gatherMoves_29 : decode cX7_gatherMoves 29 = .ok (.istore_n 3, 1) := by decide +kernel
theorem dX7_gatherMoves_30 : decode cX7_gatherMoves 30 = .ok (.iload_n 3, 1) := by decide +kernel
theorem dX7_gatherMoves_31 : decode cX7_gatherMoves 31 = .ok (.iconst 3, 1) := by decide +kernel
theorem dX7_gatherMoves_32 : decode cX7_gatherMoves 32 = .ok (.if_icmp .ge 28, 3) := by decide +kernel
theorem dX7_gatherMoves_35 : decode cX7_gatherMoves 35 = .ok (.aload_n 0, 1) := by decide +kernel
theorem dX7_gatherMoves_36 : decode cX7_gatherMoves 36 = .ok (.getfield 45, 3) := by decide +kernel
theorem dX7_gatherMoves_39 : decode cX7_gatherMoves 39 = .ok (.iload_n 2, 1) := by decide +kernel
theorem dX7_gatherMoves_40 : decode cX7_gatherMoves 40 = .ok (.iconst 3, 1) := by decide +kernel
theorem dX7_gatherMoves_41 : decode cX7_gatherMoves 41 = .ok (.imul, 1) := by decide +kernel
theorem dX7_gatherMoves_42 : decode cX7_gatherMoves 42 = .ok (.iload_n 3, 1) := by decide +kernel
theorem dX7_gatherMoves_43 : decode cX7_gatherMoves 43 = .ok (.iadd, 1) := by decide +kernel
theorem dX7_gatherMoves_44 : decode cX7_gatherMoves 44 = .ok (.aload_n 0, 1) := by decide +kernel
theorem dX7_gatherMoves_45 : decode cX7_gatherMoves 45 = .ok (.getfield 28, 3) := by decide +kernel
theorem dX7_gatherMoves_48 : decode cX7_gatherMoves 48 = .ok (.getfield 191, 3) := by decide +kernel
theorem dX7_gatherMoves_51 : decode cX7_gatherMoves 51 = .ok (.iload_n 3, 1) := by decide +kernel
theorem dX7_gatherMoves_52 : decode cX7_gatherMoves 52 = .ok (.iaload, 1) := by decide +kernel
theorem dX7_gatherMoves_53 : decode cX7_gatherMoves 53 = .ok (.iastore, 1) := by decide +kernel
theorem dX7_gatherMoves_54 : decode cX7_gatherMoves 54 = .ok (.iinc 3 1, 3) := by decide +kernel
theorem dX7_gatherMoves_57 : decode cX7_gatherMoves 57 = .ok (.goto (-27), 3) := by decide +kernel
theorem dX7_gatherMoves_60 : decode cX7_gatherMoves 60 = .ok (.iinc 2 1, 3) := by decide +kernel
theorem dX7_gatherMoves_63 : decode cX7_gatherMoves 63 = .ok (.goto (-54), 3) := by decide +kernel
theorem dX7_gatherMoves_66 : decode cX7_gatherMoves 66 = .ok (.return_, 1) := by decide +kernel
theorem dX7_endOf_0 : decode cX7_endOf 0 = .ok (.aload_n 0, 1) := by decide +kernel
theorem dX7_endOf_1 : decode cX7_endOf 1 = .ok (.getfield 12, 3) := by decide +kernel
theorem dX7_endOf_4 : decode cX7_endOf 4 = .ok (.getfield 65, 3) := by decide +kernel
theorem dX7_endOf_7 : decode cX7_endOf 7 = .ok (.iload_n 3, 1) := by decide +kernel
theorem dX7_endOf_8 : decode cX7_endOf 8 = .ok (.iaload, 1) := by decide +kernel
theorem dX7_endOf_9 : decode cX7_endOf 9 = .ok (.istore 4, 2) := by decide +kernel
theorem dX7_endOf_11 : decode cX7_endOf 11 = .ok (.iconst 0, 1) := by decide +kernel
theorem dX7_endOf_12 : decode cX7_endOf 12 = .ok (.istore 5, 2) := by decide +kernel
theorem dX7_endOf_14 : decode cX7_endOf 14 = .ok (.iload 5, 2) := by decide +kernel
theorem dX7_endOf_16 : decode cX7_endOf 16 = .ok (.iload_n 2, 1) := by decide +kernel
theorem dX7_endOf_17 : decode cX7_endOf 17 = .ok (.if_icmp .ge 41, 3) := by decide +kernel
theorem dX7_endOf_20 : decode cX7_endOf 20 = .ok (.iload 5, 2) := by decide +kernel
theorem dX7_endOf_22 : decode cX7_endOf 22 = .ok (.bipush 6, 2) := by decide +kernel
theorem dX7_endOf_24 : decode cX7_endOf 24 = .ok (.if_icmp .ge 34, 3) := by decide +kernel
theorem dX7_endOf_27 : decode cX7_endOf 27 = .ok (.iload_n 1, 1) := by decide +kernel
theorem dX7_endOf_28 : decode cX7_endOf 28 = .ok (.iload 5, 2) := by decide +kernel
theorem dX7_endOf_30 : decode cX7_endOf 30 = .ok (.ishr, 1) := by decide +kernel
theorem dX7_endOf_31 : decode cX7_endOf 31 = .ok (.iconst 1, 1) := by decide +kernel
theorem dX7_endOf_32 : decode cX7_endOf 32 = .ok (.iand, 1) := by decide +kernel
theorem dX7_endOf_33 : decode cX7_endOf 33 = .ok (.ifCond .eq 19, 3) := by decide +kernel
theorem dX7_endOf_36 : decode cX7_endOf 36 = .ok (.iload 4, 2) := by decide +kernel
theorem dX7_endOf_38 : decode cX7_endOf 38 = .ok (.aload_n 0, 1) := by decide +kernel
theorem dX7_endOf_39 : decode cX7_endOf 39 = .ok (.getfield 45, 3) := by decide +kernel
theorem dX7_endOf_42 : decode cX7_endOf 42 = .ok (.iload 5, 2) := by decide +kernel
theorem dX7_endOf_44 : decode cX7_endOf 44 = .ok (.iconst 3, 1) := by decide +kernel
theorem dX7_endOf_45 : decode cX7_endOf 45 = .ok (.imul, 1) := by decide +kernel
theorem dX7_endOf_46 : decode cX7_endOf 46 = .ok (.iload_n 3, 1) := by decide +kernel
theorem dX7_endOf_47 : decode cX7_endOf 47 = .ok (.iadd, 1) := by decide +kernel
theorem dX7_endOf_48 : decode cX7_endOf 48 = .ok (.iaload, 1) := by decide +kernel
theorem dX7_endOf_49 : decode cX7_endOf 49 = .ok (.iadd, 1) := by decide +kernel
theorem dX7_endOf_50 : decode cX7_endOf 50 = .ok (.istore 4, 2) := by decide +kernel
theorem dX7_endOf_52 : decode cX7_endOf 52 = .ok (.iinc 5 1, 3) := by decide +kernel
theorem dX7_endOf_55 : decode cX7_endOf 55 = .ok (.goto (-41), 3) := by decide +kernel
theorem dX7_endOf_58 : decode cX7_endOf 58 = .ok (.iload 4, 2) := by decide +kernel
theorem dX7_endOf_60 : decode cX7_endOf 60 = .ok (.ireturn, 1) := by decide +kernel
theorem dX7_weightOf_0 : decode cX7_weightOf 0 = .ok (.iconst 1, 1) := by decide +kernel
theorem dX7_weightOf_1 : decode cX7_weightOf 1 = .ok (.istore_n 3, 1) := by decide +kernel
theorem dX7_weightOf_2 : decode cX7_weightOf 2 = .ok (.iconst 0, 1) := by decide +kernel
theorem dX7_weightOf_3 : decode cX7_weightOf 3 = .ok (.istore 4, 2) := by decide +kernel
theorem dX7_weightOf_5 : decode cX7_weightOf 5 = .ok (.iload 4, 2) := by decide +kernel
theorem dX7_weightOf_7 : decode cX7_weightOf 7 = .ok (.iload_n 1, 1) := by decide +kernel
theorem dX7_weightOf_8 : decode cX7_weightOf 8 = .ok (.if_icmp .ge 29, 3) := by decide +kernel
theorem dX7_weightOf_11 : decode cX7_weightOf 11 = .ok (.iload_n 3, 1) := by decide +kernel
theorem dX7_weightOf_12 : decode cX7_weightOf 12 = .ok (.iload_n 0, 1) := by decide +kernel
theorem dX7_weightOf_13 : decode cX7_weightOf 13 = .ok (.iload 4, 2) := by decide +kernel
theorem dX7_weightOf_15 : decode cX7_weightOf 15 = .ok (.ishr, 1) := by decide +kernel
theorem dX7_weightOf_16 : decode cX7_weightOf 16 = .ok (.iconst 1, 1) := by decide +kernel
theorem dX7_weightOf_17 : decode cX7_weightOf 17 = .ok (.iand, 1) := by decide +kernel
theorem dX7_weightOf_18 : decode cX7_weightOf 18 = .ok (.ifCond .eq 10, 3) := by decide +kernel
theorem dX7_weightOf_21 : decode cX7_weightOf 21 = .ok (.bipush 10, 2) := by decide +kernel
theorem dX7_weightOf_23 : decode cX7_weightOf 23 = .ok (.iload_n 2, 1) := by decide +kernel
theorem dX7_weightOf_24 : decode cX7_weightOf 24 = .ok (.isub, 1) := by decide +kernel
theorem dX7_weightOf_25 : decode cX7_weightOf 25 = .ok (.goto 4, 3) := by decide +kernel
theorem dX7_weightOf_28 : decode cX7_weightOf 28 = .ok (.iload_n 2, 1) := by decide +kernel
theorem dX7_weightOf_29 : decode cX7_weightOf 29 = .ok (.imul, 1) := by decide +kernel
theorem dX7_weightOf_30 : decode cX7_weightOf 30 = .ok (.istore_n 3, 1) := by decide +kernel
theorem dX7_weightOf_31 : decode cX7_weightOf 31 = .ok (.iinc 4 1, 3) := by decide +kernel
theorem dX7_weightOf_34 : decode cX7_weightOf 34 = .ok (.goto (-29), 3) := by decide +kernel
theorem dX7_weightOf_37 : decode cX7_weightOf 37 = .ok (.iload_n 3, 1) := by decide +kernel
theorem dX7_weightOf_38 : decode cX7_weightOf 38 = .ok (.ireturn, 1) := by decide +kernel
theorem dX7_comesSo_0 : decode cX7_comesSo 0 = .ok (.aload_n 0, 1) := by decide +kernel
theorem dX7_comesSo_1 : decode cX7_comesSo 1 = .ok (.getfield 12, 3) := by decide +kernel
theorem dX7_comesSo_4 : decode cX7_comesSo 4 = .ok (.getfield 72, 3) := by decide +kernel
theorem dX7_comesSo_7 : decode cX7_comesSo 7 = .ok (.iconst 0, 1) := by decide +kernel
theorem dX7_comesSo_8 : decode cX7_comesSo 8 = .ok (.aaload, 1) := by decide +kernel
theorem dX7_comesSo_9 : decode cX7_comesSo 9 = .ok (.astore 5, 2) := by decide +kernel
theorem dX7_comesSo_11 : decode cX7_comesSo 11 = .ok (.iload_n 1, 1) := by decide +kernel
theorem dX7_comesSo_12 : decode cX7_comesSo 12 = .ok (.aload 5, 2) := by decide +kernel
theorem dX7_comesSo_14 : decode cX7_comesSo 14 = .ok (.getfield 118, 3) := by decide +kernel
theorem dX7_comesSo_17 : decode cX7_comesSo 17 = .ok (.aload 5, 2) := by decide +kernel
theorem dX7_comesSo_19 : decode cX7_comesSo 19 = .ok (.getfield 121, 3) := by decide +kernel
theorem dX7_comesSo_22 : decode cX7_comesSo 22 = .ok (.aload 5, 2) := by decide +kernel
theorem dX7_comesSo_24 : decode cX7_comesSo 24 = .ok (.getfield 124, 3) := by decide +kernel
theorem dX7_comesSo_27 : decode cX7_comesSo 27 = .ok (.invokestatic 281, 3) := by decide +kernel
theorem dX7_comesSo_30 : decode cX7_comesSo 30 = .ok (.ifCond .ne 5, 3) := by decide +kernel
theorem dX7_comesSo_33 : decode cX7_comesSo 33 = .ok (.iconst 0, 1) := by decide +kernel
theorem dX7_comesSo_34 : decode cX7_comesSo 34 = .ok (.ireturn, 1) := by decide +kernel
theorem dX7_comesSo_35 : decode cX7_comesSo 35 = .ok (.aload_n 0, 1) := by decide +kernel
theorem dX7_comesSo_36 : decode cX7_comesSo 36 = .ok (.getfield 28, 3) := by decide +kernel
theorem dX7_comesSo_39 : decode cX7_comesSo 39 = .ok (.iload_n 1, 1) := by decide +kernel
theorem dX7_comesSo_40 : decode cX7_comesSo 40 = .ok (.invokevirtual 290, 3) := by decide +kernel
theorem dX7_comesSo_43 : decode cX7_comesSo 43 = .ok (.iconst 0, 1) := by decide +kernel
theorem dX7_comesSo_44 : decode cX7_comesSo 44 = .ok (.istore 6, 2) := by decide +kernel
theorem dX7_comesSo_46 : decode cX7_comesSo 46 = .ok (.iload 6, 2) := by decide +kernel
theorem dX7_comesSo_48 : decode cX7_comesSo 48 = .ok (.iload 4, 2) := by decide +kernel
theorem dX7_comesSo_50 : decode cX7_comesSo 50 = .ok (.if_icmp .ge 73, 3) := by decide +kernel
theorem dX7_comesSo_53 : decode cX7_comesSo 53 = .ok (.aload_n 0, 1) := by decide +kernel
theorem dX7_comesSo_54 : decode cX7_comesSo 54 = .ok (.getfield 28, 3) := by decide +kernel
theorem dX7_comesSo_57 : decode cX7_comesSo 57 = .ok (.invokevirtual 184, 3) := by decide +kernel
theorem dX7_comesSo_60 : decode cX7_comesSo 60 = .ok (.ifCond .ne 5, 3) := by decide +kernel
theorem dX7_comesSo_63 : decode cX7_comesSo 63 = .ok (.iconst 0, 1) := by decide +kernel
theorem dX7_comesSo_64 : decode cX7_comesSo 64 = .ok (.ireturn, 1) := by decide +kernel
theorem dX7_comesSo_65 : decode cX7_comesSo 65 = .ok (.aload_n 2, 1) := by decide +kernel
theorem dX7_comesSo_66 : decode cX7_comesSo 66 = .ok (.iload_n 3, 1) := by decide +kernel
theorem dX7_comesSo_67 : decode cX7_comesSo 67 = .ok (.iconst 2, 1) := by decide +kernel
theorem dX7_comesSo_68 : decode cX7_comesSo 68 = .ok (.iload 6, 2) := by decide +kernel
theorem dX7_comesSo_70 : decode cX7_comesSo 70 = .ok (.imul, 1) := by decide +kernel
theorem dX7_comesSo_71 : decode cX7_comesSo 71 = .ok (.iadd, 1) := by decide +kernel
theorem dX7_comesSo_72 : decode cX7_comesSo 72 = .ok (.invokevirtual 293, 3) := by decide +kernel
theorem dX7_comesSo_75 : decode cX7_comesSo 75 = .ok (.aload_n 0, 1) := by decide +kernel
theorem dX7_comesSo_76 : decode cX7_comesSo 76 = .ok (.getfield 28, 3) := by decide +kernel
theorem dX7_comesSo_79 : decode cX7_comesSo 79 = .ok (.getfield 187, 3) := by decide +kernel
theorem dX7_comesSo_82 : decode cX7_comesSo 82 = .ok (.iconst 0, 1) := by decide +kernel
theorem dX7_comesSo_83 : decode cX7_comesSo 83 = .ok (.iaload, 1) := by decide +kernel
theorem dX7_comesSo_84 : decode cX7_comesSo 84 = .ok (.i2l, 1) := by decide +kernel
theorem dX7_comesSo_85 : decode cX7_comesSo 85 = .ok (.lcmp, 1) := by decide +kernel
theorem dX7_comesSo_86 : decode cX7_comesSo 86 = .ok (.ifCond .ne 29, 3) := by decide +kernel
theorem dX7_comesSo_89 : decode cX7_comesSo 89 = .ok (.aload_n 2, 1) := by decide +kernel
theorem dX7_comesSo_90 : decode cX7_comesSo 90 = .ok (.iload_n 3, 1) := by decide +kernel
theorem dX7_comesSo_91 : decode cX7_comesSo 91 = .ok (.iconst 2, 1) := by decide +kernel
theorem dX7_comesSo_92 : decode cX7_comesSo 92 = .ok (.iload 6, 2) := by decide +kernel
theorem dX7_comesSo_94 : decode cX7_comesSo 94 = .ok (.imul, 1) := by decide +kernel
theorem dX7_comesSo_95 : decode cX7_comesSo 95 = .ok (.iadd, 1) := by decide +kernel
theorem dX7_comesSo_96 : decode cX7_comesSo 96 = .ok (.iconst 1, 1) := by decide +kernel
theorem dX7_comesSo_97 : decode cX7_comesSo 97 = .ok (.iadd, 1) := by decide +kernel
theorem dX7_comesSo_98 : decode cX7_comesSo 98 = .ok (.invokevirtual 293, 3) := by decide +kernel
theorem dX7_comesSo_101 : decode cX7_comesSo 101 = .ok (.aload_n 0, 1) := by decide +kernel
theorem dX7_comesSo_102 : decode cX7_comesSo 102 = .ok (.getfield 28, 3) := by decide +kernel
theorem dX7_comesSo_105 : decode cX7_comesSo 105 = .ok (.getfield 187, 3) := by decide +kernel
theorem dX7_comesSo_108 : decode cX7_comesSo 108 = .ok (.iconst 1, 1) := by decide +kernel
theorem dX7_comesSo_109 : decode cX7_comesSo 109 = .ok (.iaload, 1) := by decide +kernel
theorem dX7_comesSo_110 : decode cX7_comesSo 110 = .ok (.i2l, 1) := by decide +kernel
theorem dX7_comesSo_111 : decode cX7_comesSo 111 = .ok (.lcmp, 1) := by decide +kernel
theorem dX7_comesSo_112 : decode cX7_comesSo 112 = .ok (.ifCond .eq 5, 3) := by decide +kernel
theorem dX7_comesSo_115 : decode cX7_comesSo 115 = .ok (.iconst 0, 1) := by decide +kernel
theorem dX7_comesSo_116 : decode cX7_comesSo 116 = .ok (.ireturn, 1) := by decide +kernel
theorem dX7_comesSo_117 : decode cX7_comesSo 117 = .ok (.iinc 6 1, 3) := by decide +kernel
theorem dX7_comesSo_120 : decode cX7_comesSo 120 = .ok (.goto (-74), 3) := by decide +kernel
theorem dX7_comesSo_123 : decode cX7_comesSo 123 = .ok (.iconst 1, 1) := by decide +kernel
theorem dX7_comesSo_124 : decode cX7_comesSo 124 = .ok (.ireturn, 1) := by decide +kernel
theorem dX8_init_0 : decode cX8_init 0 = .ok (.aload_n 0, 1) := by decide +kernel
theorem dX8_init_1 : decode cX8_init 1 = .ok (.invokespecial 1, 3) := by decide +kernel
theorem dX8_init_4 : decode cX8_init 4 = .ok (.aload_n 0, 1) := by decide +kernel
theorem dX8_init_5 : decode cX8_init 5 = .ok (.sipush 915, 3) := by decide +kernel
theorem dX8_init_8 : decode cX8_init 8 = .ok (.newarray .int, 2) := by decide +kernel
theorem dX8_init_10 : decode cX8_init 10 = .ok (.putfield 7, 3) := by decide +kernel
theorem dX8_init_13 : decode cX8_init 13 = .ok (.aload_n 0, 1) := by decide +kernel
theorem dX8_init_14 : decode cX8_init 14 = .ok (.iconst (-1), 1) := by decide +kernel
theorem dX8_init_15 : decode cX8_init 15 = .ok (.putfield 13, 3) := by decide +kernel
theorem dX8_init_18 : decode cX8_init 18 = .ok (.aload_n 0, 1) := by decide +kernel
theorem dX8_init_19 : decode cX8_init 19 = .ok (.sipush 140, 3) := by decide +kernel
theorem dX8_init_22 : decode cX8_init 22 = .ok (.newarray .int, 2) := by decide +kernel
theorem dX8_init_24 : decode cX8_init 24 = .ok (.putfield 17, 3) := by decide +kernel
theorem dX8_init_27 : decode cX8_init 27 = .ok (.aload_n 0, 1) := by decide +kernel
theorem dX8_init_28 : decode cX8_init 28 = .ok (.iconst 3, 1) := by decide +kernel
theorem dX8_init_29 : decode cX8_init 29 = .ok (.newarray .int, 2) := by decide +kernel
theorem dX8_init_31 : decode cX8_init 31 = .ok (.putfield 20, 3) := by decide +kernel
theorem dX8_init_34 : decode cX8_init 34 = .ok (.aload_n 0, 1) := by decide +kernel
theorem dX8_init_35 : decode cX8_init 35 = .ok (.bipush 48, 2) := by decide +kernel
theorem dX8_init_37 : decode cX8_init 37 = .ok (.newarray .int, 2) := by decide +kernel
theorem dX8_init_39 : decode cX8_init 39 = .ok (.putfield 23, 3) := by decide +kernel
theorem dX8_init_42 : decode cX8_init 42 = .ok (.aload_n 0, 1) := by decide +kernel
theorem dX8_init_43 : decode cX8_init 43 = .ok (.bipush 18, 2) := by decide +kernel
theorem dX8_init_45 : decode cX8_init 45 = .ok (.newarray .int, 2) := by decide +kernel
theorem dX8_init_47 : decode cX8_init 47 = .ok (.putfield 26, 3) := by decide +kernel
theorem dX8_init_50 : decode cX8_init 50 = .ok (.aload_n 0, 1) := by decide +kernel
theorem dX8_init_51 : decode cX8_init 51 = .ok (.iconst 4, 1) := by decide +kernel
theorem dX8_init_52 : decode cX8_init 52 = .ok (.newarray .int, 2) := by decide +kernel
theorem dX8_init_54 : decode cX8_init 54 = .ok (.dup, 1) := by decide +kernel
theorem dX8_init_55 : decode cX8_init 55 = .ok (.iconst 0, 1) := by decide +kernel
theorem dX8_init_56 : decode cX8_init 56 = .ok (.iconst (-1), 1) := by decide +kernel
theorem dX8_init_57 : decode cX8_init 57 = .ok (.iastore, 1) := by decide +kernel
theorem dX8_init_58 : decode cX8_init 58 = .ok (.dup, 1) := by decide +kernel
theorem dX8_init_59 : decode cX8_init 59 = .ok (.iconst 1, 1) := by decide +kernel
theorem dX8_init_60 : decode cX8_init 60 = .ok (.iconst (-1), 1) := by decide +kernel
theorem dX8_init_61 : decode cX8_init 61 = .ok (.iastore, 1) := by decide +kernel
theorem dX8_init_62 : decode cX8_init 62 = .ok (.dup, 1) := by decide +kernel
theorem dX8_init_63 : decode cX8_init 63 = .ok (.iconst 2, 1) := by decide +kernel
theorem dX8_init_64 : decode cX8_init 64 = .ok (.iconst (-1), 1) := by decide +kernel
theorem dX8_init_65 : decode cX8_init 65 = .ok (.iastore, 1) := by decide +kernel
theorem dX8_init_66 : decode cX8_init 66 = .ok (.dup, 1) := by decide +kernel
theorem dX8_init_67 : decode cX8_init 67 = .ok (.iconst 3, 1) := by decide +kernel
theorem dX8_init_68 : decode cX8_init 68 = .ok (.iconst (-1), 1) := by decide +kernel
theorem dX8_init_69 : decode cX8_init 69 = .ok (.iastore, 1) := by decide +kernel
theorem dX8_init_70 : decode cX8_init 70 = .ok (.putfield 29, 3) := by decide +kernel
theorem dX8_init_73 : decode cX8_init 73 = .ok (.aload_n 0, 1) := by decide +kernel
theorem dX8_init_74 : decode cX8_init 74 = .ok (.iconst 4, 1) := by decide +kernel
theorem dX8_init_75 : decode cX8_init 75 = .ok (.newarray .int, 2) := by decide +kernel
theorem dX8_init_77 : decode cX8_init 77 = .ok (.putfield 32, 3) := by decide +kernel
theorem dX8_init_80 : decode cX8_init 80 = .ok (.aload_n 0, 1) := by decide +kernel
theorem dX8_init_81 : decode cX8_init 81 = .ok (.bipush 96, 2) := by decide +kernel
theorem dX8_init_83 : decode cX8_init 83 = .ok (.newarray .long, 2) := by decide +kernel
theorem dX8_init_85 : decode cX8_init 85 = .ok (.putfield 35, 3) := by decide +kernel
theorem dX8_init_88 : decode cX8_init 88 = .ok (.aload_n 0, 1) := by decide +kernel
theorem dX8_init_89 : decode cX8_init 89 = .ok (.bipush 24, 2) := by decide +kernel
theorem dX8_init_91 : decode cX8_init 91 = .ok (.newarray .long, 2) := by decide +kernel
theorem dX8_init_93 : decode cX8_init 93 = .ok (.putfield 39, 3) := by decide +kernel
theorem dX8_init_96 : decode cX8_init 96 = .ok (.aload_n 0, 1) := by decide +kernel
theorem dX8_init_97 : decode cX8_init 97 = .ok (.getfield 7, 3) := by decide +kernel
theorem dX8_init_100 : decode cX8_init 100 = .ok (.iconst 4, 1) := by decide +kernel
theorem dX8_init_101 : decode cX8_init 101 = .ok (.iconst 1, 1) := by decide +kernel
theorem dX8_init_102 : decode cX8_init 102 = .ok (.iastore, 1) := by decide +kernel
theorem dX8_init_103 : decode cX8_init 103 = .ok (.aload_n 0, 1) := by decide +kernel
theorem dX8_init_104 : decode cX8_init 104 = .ok (.getfield 7, 3) := by decide +kernel
theorem dX8_init_107 : decode cX8_init 107 = .ok (.iconst 5, 1) := by decide +kernel
theorem dX8_init_108 : decode cX8_init 108 = .ok (.iconst (-1), 1) := by decide +kernel
theorem dX8_init_109 : decode cX8_init 109 = .ok (.iastore, 1) := by decide +kernel
theorem dX8_init_110 : decode cX8_init 110 = .ok (.return_, 1) := by decide +kernel
theorem dX8_in_0 : decode cX8_in 0 = .ok (.lload_n 0, 1) := by decide +kernel
theorem dX8_in_1 : decode cX8_in 1 = .ok (.lload_n 2, 1) := by decide +kernel
theorem dX8_in_2 : decode cX8_in 2 = .ok (.lcmp, 1) := by decide +kernel
theorem dX8_in_3 : decode cX8_in 3 = .ok (.ifCond .lt 14, 3) := by decide +kernel
theorem dX8_in_6 : decode cX8_in 6 = .ok (.lload_n 0, 1) := by decide +kernel
theorem dX8_in_7 : decode cX8_in 7 = .ok (.lload 4, 2) := by decide +kernel
theorem dX8_in_9 : decode cX8_in 9 = .ok (.lcmp, 1) := by decide +kernel
theorem dX8_in_10 : decode cX8_in 10 = .ok (.ifCond .gt 7, 3) := by decide +kernel
theorem dX8_in_13 : decode cX8_in 13 = .ok (.iconst 1, 1) := by decide +kernel
theorem dX8_in_14 : decode cX8_in 14 = .ok (.goto 4, 3) := by decide +kernel
theorem dX8_in_17 : decode cX8_in 17 = .ok (.iconst 0, 1) := by decide +kernel
theorem dX8_in_18 : decode cX8_in 18 = .ok (.ireturn, 1) := by decide +kernel
theorem dX8_size_0 : decode cX8_size 0 = .ok (.iload_n 0, 1) := by decide +kernel
theorem dX8_size_1 : decode cX8_size 1 = .ok (.ifCond .ge 8, 3) := by decide +kernel
theorem dX8_size_4 : decode cX8_size 4 = .ok (.iload_n 0, 1) := by decide +kernel
theorem dX8_size_5 : decode cX8_size 5 = .ok (.ineg, 1) := by decide +kernel
theorem dX8_size_6 : decode cX8_size 6 = .ok (.goto 4, 3) := by decide +kernel
theorem dX8_size_9 : decode cX8_size 9 = .ok (.iload_n 0, 1) := by decide +kernel
theorem dX8_size_10 : decode cX8_size 10 = .ok (.ireturn, 1) := by decide +kernel
theorem dX8_sign_0 : decode cX8_sign 0 = .ok (.iload_n 0, 1) := by decide +kernel
theorem dX8_sign_1 : decode cX8_sign 1 = .ok (.ifCond .le 7, 3) := by decide +kernel
theorem dX8_sign_4 : decode cX8_sign 4 = .ok (.iconst 1, 1) := by decide +kernel
theorem dX8_sign_5 : decode cX8_sign 5 = .ok (.goto 12, 3) := by decide +kernel
theorem dX8_sign_8 : decode cX8_sign 8 = .ok (.iload_n 0, 1) := by decide +kernel
theorem dX8_sign_9 : decode cX8_sign 9 = .ok (.ifCond .ge 7, 3) := by decide +kernel
theorem dX8_sign_12 : decode cX8_sign 12 = .ok (.iconst (-1), 1) := by decide +kernel
theorem dX8_sign_13 : decode cX8_sign 13 = .ok (.goto 4, 3) := by decide +kernel
theorem dX8_sign_16 : decode cX8_sign 16 = .ok (.iconst 0, 1) := by decide +kernel
theorem dX8_sign_17 : decode cX8_sign 17 = .ok (.ireturn, 1) := by decide +kernel
theorem dX8_copyRow_0 : decode cX8_copyRow 0 = .ok (.iconst 0, 1) := by decide +kernel
theorem dX8_copyRow_1 : decode cX8_copyRow 1 = .ok (.istore_n 3, 1) := by decide +kernel
theorem dX8_copyRow_2 : decode cX8_copyRow 2 = .ok (.iload_n 3, 1) := by decide +kernel
theorem dX8_copyRow_3 : decode cX8_copyRow 3 = .ok (.bipush 61, 2) := by decide +kernel
theorem dX8_copyRow_5 : decode cX8_copyRow 5 = .ok (.if_icmp .ge 25, 3) := by decide +kernel
theorem dX8_copyRow_8 : decode cX8_copyRow 8 = .ok (.aload_n 0, 1) := by decide +kernel
theorem dX8_copyRow_9 : decode cX8_copyRow 9 = .ok (.getfield 7, 3) := by decide +kernel
theorem dX8_copyRow_12 : decode cX8_copyRow 12 = .ok (.iload_n 2, 1) := by decide +kernel
theorem dX8_copyRow_13 : decode cX8_copyRow 13 = .ok (.iload_n 3, 1) := by decide +kernel
theorem dX8_copyRow_14 : decode cX8_copyRow 14 = .ok (.iadd, 1) := by decide +kernel
theorem dX8_copyRow_15 : decode cX8_copyRow 15 = .ok (.aload_n 0, 1) := by decide +kernel
theorem dX8_copyRow_16 : decode cX8_copyRow 16 = .ok (.getfield 7, 3) := by decide +kernel
theorem dX8_copyRow_19 : decode cX8_copyRow 19 = .ok (.iload_n 1, 1) := by decide +kernel
theorem dX8_copyRow_20 : decode cX8_copyRow 20 = .ok (.iload_n 3, 1) := by decide +kernel
theorem dX8_copyRow_21 : decode cX8_copyRow 21 = .ok (.iadd, 1) := by decide +kernel
theorem dX8_copyRow_22 : decode cX8_copyRow 22 = .ok (.iaload, 1) := by decide +kernel
theorem dX8_copyRow_23 : decode cX8_copyRow 23 = .ok (.iastore, 1) := by decide +kernel
theorem dX8_copyRow_24 : decode cX8_copyRow 24 = .ok (.iinc 3 1, 3) := by decide +kernel
theorem dX8_copyRow_27 : decode cX8_copyRow 27 = .ok (.goto (-25), 3) := by decide +kernel
theorem dX8_copyRow_30 : decode cX8_copyRow 30 = .ok (.return_, 1) := by decide +kernel
theorem dX8_minds_0 : decode cX8_minds 0 = .ok (.aload_n 0, 1) := by decide +kernel
theorem dX8_minds_1 : decode cX8_minds 1 = .ok (.getfield 42, 3) := by decide +kernel
theorem dX8_minds_4 : decode cX8_minds 4 = .ok (.bipush 6, 2) := by decide +kernel
theorem dX8_minds_6 : decode cX8_minds 6 = .ok (.if_icmp .ne 49, 3) := by decide +kernel
theorem dX8_minds_9 : decode cX8_minds 9 = .ok (.iconst 0, 1) := by decide +kernel
theorem dX8_minds_10 : decode cX8_minds 10 = .ok (.istore_n 1, 1) := by decide +kernel
theorem dX8_minds_11 : decode cX8_minds 11 = .ok (.iload_n 1, 1) := by decide +kernel
theorem dX8_minds_12 : decode cX8_minds 12 = .ok (.sipush 305, 3) := by decide +kernel
theorem dX8_minds_15 : decode cX8_minds 15 = .ok (.if_icmp .ge 30, 3) := by decide +kernel
theorem dX8_minds_18 : decode cX8_minds 18 = .ok (.aload_n 0, 1) := by decide +kernel
theorem dX8_minds_19 : decode cX8_minds 19 = .ok (.getfield 7, 3) := by decide +kernel
theorem dX8_minds_22 : decode cX8_minds 22 = .ok (.bipush 122, 2) := by decide +kernel
theorem dX8_minds_24 : decode cX8_minds 24 = .ok (.iload_n 1, 1) := by decide +kernel
theorem dX8_minds_25 : decode cX8_minds 25 = .ok (.iadd, 1) := by decide +kernel
theorem dX8_minds_26 : decode cX8_minds 26 = .ok (.aload_n 0, 1) := by decide +kernel
theorem dX8_minds_27 : decode cX8_minds 27 = .ok (.getfield 7, 3) := by decide +kernel
theorem dX8_minds_30 : decode cX8_minds 30 = .ok (.bipush 122, 2) := by decide +kernel
theorem dX8_minds_32 : decode cX8_minds 32 = .ok (.iload_n 1, 1) := by decide +kernel
theorem dX8_minds_33 : decode cX8_minds 33 = .ok (.iadd, 1) := by decide +kernel
theorem dX8_minds_34 : decode cX8_minds 34 = .ok (.bipush 61, 2) := by decide +kernel
theorem dX8_minds_36 : decode cX8_minds 36 = .ok (.iadd, 1) := by decide +kernel
theorem dX8_minds_37 : decode cX8_minds 37 = .ok (.iaload, 1) := by decide +kernel
theorem dX8_minds_38 : decode cX8_minds 38 = .ok (.iastore, 1) := by decide +kernel
theorem dX8_minds_39 : decode cX8_minds 39 = .ok (.iinc 1 1, 3) := by decide +kernel
theorem dX8_minds_42 : decode cX8_minds 42 = .ok (.goto (-31), 3) := by decide +kernel
theorem dX8_minds_45 : decode cX8_minds 45 = .ok (.aload_n 0, 1) := by decide +kernel
theorem dX8_minds_46 : decode cX8_minds 46 = .ok (.dup, 1) := by decide +kernel
theorem dX8_minds_47 : decode cX8_minds 47 = .ok (.getfield 42, 3) := by decide +kernel
theorem dX8_minds_50 : decode cX8_minds 50 = .ok (.iconst 1, 1) := by decide +kernel
theorem dX8_minds_51 : decode cX8_minds 51 = .ok (.isub, 1) := by decide +kernel
theorem dX8_minds_52 : decode cX8_minds 52 = .ok (.putfield 42, 3) := by decide +kernel
theorem dX8_minds_55 : decode cX8_minds 55 = .ok (.aload_n 0, 1) := by decide +kernel
theorem dX8_minds_56 : decode cX8_minds 56 = .ok (.iconst 0, 1) := by decide +kernel
theorem dX8_minds_57 : decode cX8_minds 57 = .ok (.bipush 122, 2) := by decide +kernel
theorem dX8_minds_59 : decode cX8_minds 59 = .ok (.bipush 61, 2) := by decide +kernel
theorem dX8_minds_61 : decode cX8_minds 61 = .ok (.aload_n 0, 1) := by decide +kernel
theorem dX8_minds_62 : decode cX8_minds 62 = .ok (.getfield 42, 3) := by decide +kernel
theorem dX8_minds_65 : decode cX8_minds 65 = .ok (.imul, 1) := by decide +kernel
theorem dX8_minds_66 : decode cX8_minds 66 = .ok (.iadd, 1) := by decide +kernel
theorem dX8_minds_67 : decode cX8_minds 67 = .ok (.invokevirtual 45, 3) := by decide +kernel
theorem dX8_minds_70 : decode cX8_minds 70 = .ok (.aload_n 0, 1) := by decide +kernel
theorem dX8_minds_71 : decode cX8_minds 71 = .ok (.dup, 1) := by decide +kernel
theorem dX8_minds_72 : decode cX8_minds 72 = .ok (.getfield 42, 3) := by decide +kernel
theorem dX8_minds_75 : decode cX8_minds 75 = .ok (.iconst 1, 1) := by decide +kernel
theorem dX8_minds_76 : decode cX8_minds 76 = .ok (.iadd, 1) := by decide +kernel
theorem dX8_minds_77 : decode cX8_minds 77 = .ok (.putfield 42, 3) := by decide +kernel
theorem dX8_minds_80 : decode cX8_minds 80 = .ok (.return_, 1) := by decide +kernel
theorem dX8_isPiece_0 : decode cX8_isPiece 0 = .ok (.iload_n 0, 1) := by decide +kernel
theorem dX8_isPiece_1 : decode cX8_isPiece 1 = .ok (.i2l, 1) := by decide +kernel
theorem dX8_isPiece_2 : decode cX8_isPiece 2 = .ok (.lconst 0, 1) := by decide +kernel
theorem dX8_isPiece_3 : decode cX8_isPiece 3 = .ok (.ldc2_w 49, 3) := by decide +kernel
theorem dX8_isPiece_6 : decode cX8_isPiece 6 = .ok (.invokestatic 51, 3) := by decide +kernel
theorem dX8_isPiece_9 : decode cX8_isPiece 9 = .ok (.ifCond .ne 5, 3) := by decide +kernel
theorem dX8_isPiece_12 : decode cX8_isPiece 12 = .ok (.iconst 0, 1) := by decide +kernel
theorem dX8_isPiece_13 : decode cX8_isPiece 13 = .ok (.ireturn, 1) := by decide +kernel
theorem dX8_isPiece_14 : decode cX8_isPiece 14 = .ok (.iload_n 0, 1) := by decide +kernel
theorem dX8_isPiece_15 : decode cX8_isPiece 15 = .ok (.iconst 2, 1) := by decide +kernel
theorem dX8_isPiece_16 : decode cX8_isPiece 16 = .ok (.if_icmp .le 57, 3) := by decide +kernel
theorem dX8_isPiece_19 : decode cX8_isPiece 19 = .ok (.iload_n 1, 1) := by decide +kernel
theorem dX8_isPiece_20 : decode cX8_isPiece 20 = .ok (.i2l, 1) := by decide +kernel
theorem dX8_isPiece_21 : decode cX8_isPiece 21 = .ok (.ldc2_w 55, 3) := by decide +kernel
theorem dX8_isPiece_24 : decode cX8_isPiece 24 = .ok (.ldc2_w 57, 3) := by decide +kernel
theorem dX8_isPiece_27 : decode cX8_isPiece 27 = .ok (.invokestatic 51, 3) := by decide +kernel
theorem dX8_isPiece_30 : decode cX8_isPiece 30 = .ok (.ifCond .eq 41, 3) := by decide +kernel
theorem dX8_isPiece_33 : decode cX8_isPiece 33 = .ok (.iload_n 2, 1) := by decide +kernel
theorem dX8_isPiece_34 : decode cX8_isPiece 34 = .ok (.i2l, 1) := by decide +kernel
theorem dX8_isPiece_35 : decode cX8_isPiece 35 = .ok (.ldc2_w 55, 3) := by decide +kernel
theorem dX8_isPiece_38 : decode cX8_isPiece 38 = .ok (.ldc2_w 57, 3) := by decide +kernel
theorem dX8_isPiece_41 : decode cX8_isPiece 41 = .ok (.invokestatic 51, 3) := by decide +kernel
theorem dX8_isPiece_44 : decode cX8_isPiece 44 = .ok (.ifCond .eq 27, 3) := by decide +kernel
theorem dX8_isPiece_47 : decode cX8_isPiece 47 = .ok (.iload_n 1, 1) := by decide +kernel
theorem dX8_isPiece_48 : decode cX8_isPiece 48 = .ok (.ifCond .ne 7, 3) := by decide +kernel
theorem dX8_isPiece_51 : decode cX8_isPiece 51 = .ok (.iload_n 2, 1) := by decide +kernel
theorem dX8_isPiece_52 : decode cX8_isPiece 52 = .ok (.ifCond .eq 19, 3) := by decide +kernel
theorem dX8_isPiece_55 : decode cX8_isPiece 55 = .ok (.iload_n 3, 1) := by decide +kernel
theorem dX8_isPiece_56 : decode cX8_isPiece 56 = .ok (.i2l, 1) := by decide +kernel
theorem dX8_isPiece_57 : decode cX8_isPiece 57 = .ok (.lconst 1, 1) := by decide +kernel
theorem dX8_isPiece_58 : decode cX8_isPiece 58 = .ok (.ldc2_w 59, 3) := by decide +kernel
theorem dX8_isPiece_61 : decode cX8_isPiece 61 = .ok (.invokestatic 51, 3) := by decide +kernel
theorem dX8_isPiece_64 : decode cX8_isPiece 64 = .ok (.ifCond .eq 7, 3) := by decide +kernel
theorem dX8_isPiece_67 : decode cX8_isPiece 67 = .ok (.iconst 1, 1) := by decide +kernel
theorem dX8_isPiece_68 : decode cX8_isPiece 68 = .ok (.goto 4, 3) := by decide +kernel
theorem dX8_isPiece_71 : decode cX8_isPiece 71 = .ok (.iconst 0, 1) := by decide +kernel
theorem dX8_isPiece_72 : decode cX8_isPiece 72 = .ok (.ireturn, 1) := by decide +kernel
theorem dX8_isPiece_73 : decode cX8_isPiece 73 = .ok (.iload_n 1, 1) := by decide +kernel
theorem dX8_isPiece_74 : decode cX8_isPiece 74 = .ok (.i2l, 1) := by decide +kernel
theorem dX8_isPiece_75 : decode cX8_isPiece 75 = .ok (.ldc2_w 61, 3) := by decide +kernel
theorem dX8_isPiece_78 : decode cX8_isPiece 78 = .ok (.ldc2_w 63, 3) := by decide +kernel
theorem dX8_isPiece_81 : decode cX8_isPiece 81 = .ok (.invokestatic 51, 3) := by decide +kernel
theorem dX8_isPiece_84 : decode cX8_isPiece 84 = .ok (.ifCond .eq 47, 3) := by decide +kernel
theorem dX8_isPiece_87 : decode cX8_isPiece 87 = .ok (.iload_n 2, 1) := by decide +kernel
theorem dX8_isPiece_88 : decode cX8_isPiece 88 = .ok (.i2l, 1) := by decide +kernel
theorem dX8_isPiece_89 : decode cX8_isPiece 89 = .ok (.ldc2_w 61, 3) := by decide +kernel
theorem dX8_isPiece_92 : decode cX8_isPiece 92 = .ok (.ldc2_w 63, 3) := by decide +kernel
theorem dX8_isPiece_95 : decode cX8_isPiece 95 = .ok (.invokestatic 51, 3) := by decide +kernel
theorem dX8_isPiece_98 : decode cX8_isPiece 98 = .ok (.ifCond .eq 33, 3) := by decide +kernel
theorem dX8_isPiece_101 : decode cX8_isPiece 101 = .ok (.iload_n 3, 1) := by decide +kernel
theorem dX8_isPiece_102 : decode cX8_isPiece 102 = .ok (.i2l, 1) := by decide +kernel
theorem dX8_isPiece_103 : decode cX8_isPiece 103 = .ok (.ldc2_w 61, 3) := by decide +kernel
theorem dX8_isPiece_106 : decode cX8_isPiece 106 = .ok (.ldc2_w 63, 3) := by decide +kernel
theorem dX8_isPiece_109 : decode cX8_isPiece 109 = .ok (.invokestatic 51, 3) := by decide +kernel
theorem dX8_isPiece_112 : decode cX8_isPiece 112 = .ok (.ifCond .eq 19, 3) := by decide +kernel
theorem dX8_isPiece_115 : decode cX8_isPiece 115 = .ok (.iload_n 1, 1) := by decide +kernel
theorem dX8_isPiece_116 : decode cX8_isPiece 116 = .ok (.ifCond .ne 11, 3) := by decide +kernel
theorem dX8_isPiece_119 : decode cX8_isPiece 119 = .ok (.iload_n 2, 1) := by decide +kernel
theorem dX8_isPiece_120 : decode cX8_isPiece 120 = .ok (.ifCond .ne 7, 3) := by decide +kernel
theorem dX8_isPiece_123 : decode cX8_isPiece 123 = .ok (.iload_n 3, 1) := by decide +kernel
theorem dX8_isPiece_124 : decode cX8_isPiece 124 = .ok (.ifCond .eq 7, 3) := by decide +kernel
theorem dX8_isPiece_127 : decode cX8_isPiece 127 = .ok (.iconst 1, 1) := by decide +kernel
theorem dX8_isPiece_128 : decode cX8_isPiece 128 = .ok (.goto 4, 3) := by decide +kernel
theorem dX8_isPiece_131 : decode cX8_isPiece 131 = .ok (.iconst 0, 1) := by decide +kernel
theorem dX8_isPiece_132 : decode cX8_isPiece 132 = .ok (.ireturn, 1) := by decide +kernel
theorem dX8_turnsOf_0 : decode cX8_turnsOf 0 = .ok (.iload_n 0, 1) := by decide +kernel
theorem dX8_turnsOf_1 : decode cX8_turnsOf 1 = .ok (.invokestatic 65, 3) := by decide +kernel
theorem dX8_turnsOf_4 : decode cX8_turnsOf 4 = .ok (.iload_n 1, 1) := by decide +kernel
theorem dX8_turnsOf_5 : decode cX8_turnsOf 5 = .ok (.invokestatic 65, 3) := by decide +kernel
theorem dX8_turnsOf_8 : decode cX8_turnsOf 8 = .ok (.if_icmp .le 10, 3) := by decide +kernel
theorem dX8_turnsOf_11 : decode cX8_turnsOf 11 = .ok (.iload_n 0, 1) := by decide +kernel
theorem dX8_turnsOf_12 : decode cX8_turnsOf 12 = .ok (.invokestatic 65, 3) := by decide +kernel
theorem dX8_turnsOf_15 : decode cX8_turnsOf 15 = .ok (.goto 7, 3) := by decide +kernel
theorem dX8_turnsOf_18 : decode cX8_turnsOf 18 = .ok (.iload_n 1, 1) := by decide +kernel
theorem dX8_turnsOf_19 : decode cX8_turnsOf 19 = .ok (.invokestatic 65, 3) := by decide +kernel
theorem dX8_turnsOf_22 : decode cX8_turnsOf 22 = .ok (.istore_n 3, 1) := by decide +kernel
theorem dX8_turnsOf_23 : decode cX8_turnsOf 23 = .ok (.iload_n 2, 1) := by decide +kernel
theorem dX8_turnsOf_24 : decode cX8_turnsOf 24 = .ok (.invokestatic 65, 3) := by decide +kernel
theorem dX8_turnsOf_27 : decode cX8_turnsOf 27 = .ok (.iload_n 3, 1) := by decide +kernel
theorem dX8_turnsOf_28 : decode cX8_turnsOf 28 = .ok (.if_icmp .le 10, 3) := by decide +kernel
theorem dX8_turnsOf_31 : decode cX8_turnsOf 31 = .ok (.iload_n 2, 1) := by decide +kernel
theorem dX8_turnsOf_32 : decode cX8_turnsOf 32 = .ok (.invokestatic 65, 3) := by decide +kernel
theorem dX8_turnsOf_35 : decode cX8_turnsOf 35 = .ok (.goto 4, 3) := by decide +kernel
theorem dX8_turnsOf_38 : decode cX8_turnsOf 38 = .ok (.iload_n 3, 1) := by decide +kernel
theorem dX8_turnsOf_39 : decode cX8_turnsOf 39 = .ok (.ireturn, 1) := by decide +kernel
theorem dX8_stepsOf_0 : decode cX8_stepsOf 0 = .ok (.iload_n 0, 1) := by decide +kernel
theorem dX8_stepsOf_1 : decode cX8_stepsOf 1 = .ok (.iconst 2, 1) := by decide +kernel
theorem dX8_stepsOf_2 : decode cX8_stepsOf 2 = .ok (.if_icmp .ge 12, 3) := by decide +kernel
theorem dX8_stepsOf_5 : decode cX8_stepsOf 5 = .ok (.iload_n 1, 1) := by decide +kernel
theorem dX8_stepsOf_6 : decode cX8_stepsOf 6 = .ok (.iload_n 2, 1) := by decide +kernel
theorem dX8_stepsOf_7 : decode cX8_stepsOf 7 = .ok (.iload_n 3, 1) := by decide +kernel
theorem dX8_stepsOf_8 : decode cX8_stepsOf 8 = .ok (.invokestatic 69, 3) := by decide +kernel
theorem dX8_stepsOf_11 : decode cX8_stepsOf 11 = .ok (.goto 26, 3) := by decide +kernel
theorem dX8_stepsOf_14 : decode cX8_stepsOf 14 = .ok (.iload_n 0, 1) := by decide +kernel
theorem dX8_stepsOf_15 : decode cX8_stepsOf 15 = .ok (.iconst 2, 1) := by decide +kernel
theorem dX8_stepsOf_16 : decode cX8_stepsOf 16 = .ok (.if_icmp .ne 20, 3) := by decide +kernel
theorem dX8_stepsOf_19 : decode cX8_stepsOf 19 = .ok (.iload_n 1, 1) := by decide +kernel
theorem dX8_stepsOf_20 : decode cX8_stepsOf 20 = .ok (.invokestatic 65, 3) := by decide +kernel
theorem dX8_stepsOf_23 : decode cX8_stepsOf 23 = .ok (.iload_n 2, 1) := by decide +kernel
theorem dX8_stepsOf_24 : decode cX8_stepsOf 24 = .ok (.invokestatic 65, 3) := by decide +kernel
theorem dX8_stepsOf_27 : decode cX8_stepsOf 27 = .ok (.iadd, 1) := by decide +kernel
theorem dX8_stepsOf_28 : decode cX8_stepsOf 28 = .ok (.iload_n 3, 1) := by decide +kernel
theorem dX8_stepsOf_29 : decode cX8_stepsOf 29 = .ok (.invokestatic 65, 3) := by decide +kernel
theorem dX8_stepsOf_32 : decode cX8_stepsOf 32 = .ok (.iadd, 1) := by decide +kernel
theorem dX8_stepsOf_33 : decode cX8_stepsOf 33 = .ok (.goto 4, 3) := by decide +kernel
theorem dX8_stepsOf_36 : decode cX8_stepsOf 36 = .ok (.iload_n 3, 1) := by decide +kernel
theorem dX8_stepsOf_37 : decode cX8_stepsOf 37 = .ok (.ireturn, 1) := by decide +kernel
theorem dX8_stepsAt_0 : decode cX8_stepsAt 0 = .ok (.aload_n 0, 1) := by decide +kernel
theorem dX8_stepsAt_1 : decode cX8_stepsAt 1 = .ok (.getfield 7, 3) := by decide +kernel
theorem dX8_stepsAt_4 : decode cX8_stepsAt 4 = .ok (.iload_n 1, 1) := by decide +kernel
theorem dX8_stepsAt_5 : decode cX8_stepsAt 5 = .ok (.iaload, 1) := by decide +kernel
theorem dX8_stepsAt_6 : decode cX8_stepsAt 6 = .ok (.aload_n 0, 1) := by decide +kernel
theorem dX8_stepsAt_7 : decode cX8_stepsAt 7 = .ok (.getfield 7, 3) := by decide +kernel
theorem dX8_stepsAt_10 : decode cX8_stepsAt 10 = .ok (.iload_n 1, 1) := by decide +kernel
theorem dX8_stepsAt_11 : decode cX8_stepsAt 11 = .ok (.iconst 1, 1) := by decide +kernel
theorem dX8_stepsAt_12 : decode cX8_stepsAt 12 = .ok (.iadd, 1) := by decide +kernel
theorem dX8_stepsAt_13 : decode cX8_stepsAt 13 = .ok (.iaload, 1) := by decide +kernel
theorem dX8_stepsAt_14 : decode cX8_stepsAt 14 = .ok (.aload_n 0, 1) := by decide +kernel
theorem dX8_stepsAt_15 : decode cX8_stepsAt 15 = .ok (.getfield 7, 3) := by decide +kernel
theorem dX8_stepsAt_18 : decode cX8_stepsAt 18 = .ok (.iload_n 1, 1) := by decide +kernel
theorem dX8_stepsAt_19 : decode cX8_stepsAt 19 = .ok (.iconst 2, 1) := by decide +kernel
theorem dX8_stepsAt_20 : decode cX8_stepsAt 20 = .ok (.iadd, 1) := by decide +kernel
theorem dX8_stepsAt_21 : decode cX8_stepsAt 21 = .ok (.iaload, 1) := by decide +kernel
theorem dX8_stepsAt_22 : decode cX8_stepsAt 22 = .ok (.aload_n 0, 1) := by decide +kernel
theorem dX8_stepsAt_23 : decode cX8_stepsAt 23 = .ok (.getfield 7, 3) := by decide +kernel
theorem dX8_stepsAt_26 : decode cX8_stepsAt 26 = .ok (.iload_n 1, 1) := by decide +kernel
theorem dX8_stepsAt_27 : decode cX8_stepsAt 27 = .ok (.iconst 3, 1) := by decide +kernel
theorem dX8_stepsAt_28 : decode cX8_stepsAt 28 = .ok (.iadd, 1) := by decide +kernel
theorem dX8_stepsAt_29 : decode cX8_stepsAt 29 = .ok (.iaload, 1) := by decide +kernel
theorem dX8_stepsAt_30 : decode cX8_stepsAt 30 = .ok (.invokestatic 73, 3) := by decide +kernel
theorem dX8_stepsAt_33 : decode cX8_stepsAt 33 = .ok (.ireturn, 1) := by decide +kernel
theorem dX8_stillNow_0 : decode cX8_stillNow 0 = .ok (.aload_n 0, 1) := by decide +kernel
theorem dX8_stillNow_1 : decode cX8_stillNow 1 = .ok (.getfield 7, 3) := by decide +kernel
theorem dX8_stillNow_4 : decode cX8_stillNow 4 = .ok (.iload_n 1, 1) := by decide +kernel
theorem dX8_stillNow_5 : decode cX8_stillNow 5 = .ok (.iconst 5, 1) := by decide +kernel
theorem dX8_stillNow_6 : decode cX8_stillNow 6 = .ok (.iadd, 1) := by decide +kernel
theorem dX8_stillNow_7 : decode cX8_stillNow 7 = .ok (.iaload, 1) := by decide +kernel
theorem dX8_stillNow_8 : decode cX8_stillNow 8 = .ok (.ifCond .ge 7, 3) := by decide +kernel
theorem dX8_stillNow_11 : decode cX8_stillNow 11 = .ok (.iconst 0, 1) := by decide +kernel
theorem dX8_stillNow_12 : decode cX8_stillNow 12 = .ok (.goto 20, 3) := by decide +kernel
theorem dX8_stillNow_15 : decode cX8_stillNow 15 = .ok (.aload_n 0, 1) := by decide +kernel
theorem dX8_stillNow_16 : decode cX8_stillNow 16 = .ok (.iload_n 1, 1) := by decide +kernel
theorem dX8_stillNow_17 : decode cX8_stillNow 17 = .ok (.iconst 5, 1) := by decide +kernel
theorem dX8_stillNow_18 : decode cX8_stillNow 18 = .ok (.iadd, 1) := by decide +kernel
theorem dX8_stillNow_19 : decode cX8_stillNow 19 = .ok (.invokevirtual 77, 3) := by decide +kernel
theorem dX8_stillNow_22 : decode cX8_stillNow 22 = .ok (.aload_n 0, 1) := by decide +kernel
theorem dX8_stillNow_23 : decode cX8_stillNow 23 = .ok (.getfield 7, 3) := by decide +kernel
theorem dX8_stillNow_26 : decode cX8_stillNow 26 = .ok (.iload_n 1, 1) := by decide +kernel
theorem dX8_stillNow_27 : decode cX8_stillNow 27 = .ok (.bipush 9, 2) := by decide +kernel
theorem dX8_stillNow_29 : decode cX8_stillNow 29 = .ok (.iadd, 1) := by decide +kernel
theorem dX8_stillNow_30 : decode cX8_stillNow 30 = .ok (.iaload, 1) := by decide +kernel
theorem dX8_stillNow_31 : decode cX8_stillNow 31 = .ok (.isub, 1) := by decide +kernel
theorem dX8_stillNow_32 : decode cX8_stillNow 32 = .ok (.ireturn, 1) := by decide +kernel
theorem dX8_leftOf_0 : decode cX8_leftOf 0 = .ok (.aload_n 0, 1) := by decide +kernel
theorem dX8_leftOf_1 : decode cX8_leftOf 1 = .ok (.iload_n 1, 1) := by decide +kernel
theorem dX8_leftOf_2 : decode cX8_leftOf 2 = .ok (.invokevirtual 80, 3) := by decide +kernel
theorem dX8_leftOf_5 : decode cX8_leftOf 5 = .ok (.istore_n 2, 1) := by decide +kernel
theorem dX8_leftOf_6 : decode cX8_leftOf 6 = .ok (.iconst 0, 1) := by decide +kernel
theorem dX8_leftOf_7 : decode cX8_leftOf 7 = .ok (.istore_n 3, 1) := by decide +kernel
theorem dX8_leftOf_8 : decode cX8_leftOf 8 = .ok (.iload_n 3, 1) := by decide +kernel
theorem dX8_leftOf_9 : decode cX8_leftOf 9 = .ok (.aload_n 0, 1) := by decide +kernel
theorem dX8_leftOf_10 : decode cX8_leftOf 10 = .ok (.getfield 7, 3) := by decide +kernel
theorem dX8_leftOf_13 : decode cX8_leftOf 13 = .ok (.iload_n 1, 1) := by decide +kernel
theorem dX8_leftOf_14 : decode cX8_leftOf 14 = .ok (.bipush 12, 2) := by decide +kernel
theorem dX8_leftOf_16 : decode cX8_leftOf 16 = .ok (.iadd, 1) := by decide +kernel
theorem dX8_leftOf_17 : decode cX8_leftOf 17 = .ok (.iaload, 1) := by decide +kernel
theorem dX8_leftOf_18 : decode cX8_leftOf 18 = .ok (.if_icmp .ge 24, 3) := by decide +kernel
theorem dX8_leftOf_21 : decode cX8_leftOf 21 = .ok (.iload_n 2, 1) := by decide +kernel
theorem dX8_leftOf_22 : decode cX8_leftOf 22 = .ok (.aload_n 0, 1) := by decide +kernel
theorem dX8_leftOf_23 : decode cX8_leftOf 23 = .ok (.iload_n 1, 1) := by decide +kernel
theorem dX8_leftOf_24 : decode cX8_leftOf 24 = .ok (.bipush 13, 2) := by decide +kernel
theorem dX8_leftOf_26 : decode cX8_leftOf 26 = .ok (.iadd, 1) := by decide +kernel
theorem dX8_leftOf_27 : decode cX8_leftOf 27 = .ok (.iconst 4, 1) := by decide +kernel
theorem dX8_leftOf_28 : decode cX8_leftOf 28 = .ok (.iload_n 3, 1) := by decide +kernel
theorem dX8_leftOf_29 : decode cX8_leftOf 29 = .ok (.imul, 1) := by decide +kernel
theorem dX8_leftOf_30 : decode cX8_leftOf 30 = .ok (.iadd, 1) := by decide +kernel
theorem dX8_leftOf_31 : decode cX8_leftOf 31 = .ok (.invokevirtual 77, 3) := by decide +kernel
theorem dX8_leftOf_34 : decode cX8_leftOf 34 = .ok (.iadd, 1) := by decide +kernel
theorem dX8_leftOf_35 : decode cX8_leftOf 35 = .ok (.istore_n 2, 1) := by decide +kernel
theorem dX8_leftOf_36 : decode cX8_leftOf 36 = .ok (.iinc 3 1, 3) := by decide +kernel
theorem dX8_leftOf_39 : decode cX8_leftOf 39 = .ok (.goto (-31), 3) := by decide +kernel
theorem dX8_leftOf_42 : decode cX8_leftOf 42 = .ok (.iload_n 2, 1) := by decide +kernel
theorem dX8_leftOf_43 : decode cX8_leftOf 43 = .ok (.ireturn, 1) := by decide +kernel
theorem dX8_gone_0 : decode cX8_gone 0 = .ok (.iload_n 0, 1) := by decide +kernel
theorem dX8_gone_1 : decode cX8_gone 1 = .ok (.iconst 1, 1) := by decide +kernel
theorem dX8_gone_2 : decode cX8_gone 2 = .ok (.if_icmp .ne 22, 3) := by decide +kernel
theorem dX8_gone_5 : decode cX8_gone 5 = .ok (.iload_n 3, 1) := by decide +kernel
theorem dX8_gone_6 : decode cX8_gone 6 = .ok (.iload_n 1, 1) := by decide +kernel
theorem dX8_gone_7 : decode cX8_gone 7 = .ok (.invokestatic 65, 3) := by decide +kernel
theorem dX8_gone_10 : decode cX8_gone 10 = .ok (.if_icmp .ge 7, 3) := by decide +kernel
theorem dX8_gone_13 : decode cX8_gone 13 = .ok (.iload_n 3, 1) := by decide +kernel
theorem dX8_gone_14 : decode cX8_gone 14 = .ok (.goto 26, 3) := by decide +kernel
theorem dX8_gone_17 : decode cX8_gone 17 = .ok (.iload_n 1, 1) := by decide +kernel
theorem dX8_gone_18 : decode cX8_gone 18 = .ok (.invokestatic 65, 3) := by decide +kernel
theorem dX8_gone_21 : decode cX8_gone 21 = .ok (.goto 19, 3) := by decide +kernel
theorem dX8_gone_24 : decode cX8_gone 24 = .ok (.iconst 2, 1) := by decide +kernel
theorem dX8_gone_25 : decode cX8_gone 25 = .ok (.iload_n 3, 1) := by decide +kernel
theorem dX8_gone_26 : decode cX8_gone 26 = .ok (.imul, 1) := by decide +kernel
theorem dX8_gone_27 : decode cX8_gone 27 = .ok (.iload_n 1, 1) := by decide +kernel
theorem dX8_gone_28 : decode cX8_gone 28 = .ok (.invokestatic 65, 3) := by decide +kernel
theorem dX8_gone_31 : decode cX8_gone 31 = .ok (.imul, 1) := by decide +kernel
theorem dX8_gone_32 : decode cX8_gone 32 = .ok (.iload_n 2, 1) := by decide +kernel
theorem dX8_gone_33 : decode cX8_gone 33 = .ok (.iadd, 1) := by decide +kernel
theorem dX8_gone_34 : decode cX8_gone 34 = .ok (.iconst 1, 1) := by decide +kernel
theorem dX8_gone_35 : decode cX8_gone 35 = .ok (.isub, 1) := by decide +kernel
theorem dX8_gone_36 : decode cX8_gone 36 = .ok (.iconst 2, 1) := by decide +kernel
theorem dX8_gone_37 : decode cX8_gone 37 = .ok (.iload_n 2, 1) := by decide +kernel
theorem dX8_gone_38 : decode cX8_gone 38 = .ok (.imul, 1) := by decide +kernel
theorem dX8_gone_39 : decode cX8_gone 39 = .ok (.idiv, 1) := by decide +kernel
theorem dX8_gone_40 : decode cX8_gone 40 = .ok (.istore 4, 2) := by decide +kernel
theorem dX8_gone_42 : decode cX8_gone 42 = .ok (.iload_n 1, 1) := by decide +kernel
theorem dX8_gone_43 : decode cX8_gone 43 = .ok (.ifCond .ge 9, 3) := by decide +kernel
theorem dX8_gone_46 : decode cX8_gone 46 = .ok (.iload 4, 2) := by decide +kernel
theorem dX8_gone_48 : decode cX8_gone 48 = .ok (.ineg, 1) := by decide +kernel
theorem dX8_gone_49 : decode cX8_gone 49 = .ok (.goto 5, 3) := by decide +kernel
theorem dX8_gone_52 : decode cX8_gone 52 = .ok (.iload 4, 2) := by decide +kernel
theorem dX8_gone_54 : decode cX8_gone 54 = .ok (.ireturn, 1) := by decide +kernel
theorem dX8_goes_0 : decode cX8_goes 0 = .ok (.aload_n 0, 1) := by decide +kernel
theorem dX8_goes_1 : decode cX8_goes 1 = .ok (.getfield 7, 3) := by decide +kernel
theorem dX8_goes_4 : decode cX8_goes 4 = .ok (.iload_n 1, 1) := by decide +kernel
theorem dX8_goes_5 : decode cX8_goes 5 = .ok (.iload_n 2, 1) := by decide +kernel
theorem dX8_goes_6 : decode cX8_goes 6 = .ok (.iadd, 1) := by decide +kernel
theorem dX8_goes_7 : decode cX8_goes 7 = .ok (.dup2, 1) := by decide +kernel
theorem dX8_goes_8 : decode cX8_goes 8 = .ok (.iaload, 1) := by decide +kernel
theorem dX8_goes_9 : decode cX8_goes 9 = .ok (.iload_n 3, 1) := by decide +kernel
theorem dX8_goes_10 : decode cX8_goes 10 = .ok (.iadd, 1) := by decide +kernel
theorem dX8_goes_11 : decode cX8_goes 11 = .ok (.iastore, 1) := by decide +kernel
theorem dX8_goes_12 : decode cX8_goes 12 = .ok (.aload_n 0, 1) := by decide +kernel
theorem dX8_goes_13 : decode cX8_goes 13 = .ok (.getfield 20, 3) := by decide +kernel
theorem dX8_goes_16 : decode cX8_goes 16 = .ok (.iload_n 2, 1) := by decide +kernel
theorem dX8_goes_17 : decode cX8_goes 17 = .ok (.dup2, 1) := by decide +kernel
theorem dX8_goes_18 : decode cX8_goes 18 = .ok (.iaload, 1) := by decide +kernel
theorem dX8_goes_19 : decode cX8_goes 19 = .ok (.iload_n 3, 1) := by decide +kernel
theorem dX8_goes_20 : decode cX8_goes 20 = .ok (.iadd, 1) := by decide +kernel
theorem dX8_goes_21 : decode cX8_goes 21 = .ok (.iastore, 1) := by decide +kernel
theorem dX8_goes_22 : decode cX8_goes 22 = .ok (.return_, 1) := by decide +kernel
theorem dX8_line_0 : decode cX8_line 0 = .ok (.iload_n 1, 1) := by decide +kernel
theorem dX8_line_1 : decode cX8_line 1 = .ok (.bipush 6, 2) := by decide +kernel
theorem dX8_line_3 : decode cX8_line 3 = .ok (.iadd, 1) := by decide +kernel
theorem dX8_line_4 : decode cX8_line 4 = .ok (.istore_n 2, 1) := by decide +kernel
theorem dX8_line_5 : decode cX8_line 5 = .ok (.aload_n 0, 1) := by decide +kernel
theorem dX8_line_6 : decode cX8_line 6 = .ok (.getfield 7, 3) := by decide +kernel
theorem dX8_line_9 : decode cX8_line 9 = .ok (.iload_n 2, 1) := by decide +kernel
theorem dX8_line_10 : decode cX8_line 10 = .ok (.iaload, 1) := by decide +kernel
theorem dX8_line_11 : decode cX8_line 11 = .ok (.aload_n 0, 1) := by decide +kernel
theorem dX8_line_12 : decode cX8_line 12 = .ok (.getfield 7, 3) := by decide +kernel
theorem dX8_line_15 : decode cX8_line 15 = .ok (.iload_n 2, 1) := by decide +kernel
theorem dX8_line_16 : decode cX8_line 16 = .ok (.iconst 1, 1) := by decide +kernel
theorem dX8_line_17 : decode cX8_line 17 = .ok (.iadd, 1) := by decide +kernel
theorem dX8_line_18 : decode cX8_line 18 = .ok (.iaload, 1) := by decide +kernel
theorem dX8_line_19 : decode cX8_line 19 = .ok (.aload_n 0, 1) := by decide +kernel
theorem dX8_line_20 : decode cX8_line 20 = .ok (.getfield 7, 3) := by decide +kernel
theorem dX8_line_23 : decode cX8_line 23 = .ok (.iload_n 2, 1) := by decide +kernel
theorem dX8_line_24 : decode cX8_line 24 = .ok (.iconst 2, 1) := by decide +kernel
theorem dX8_line_25 : decode cX8_line 25 = .ok (.iadd, 1) := by decide +kernel
theorem dX8_line_26 : decode cX8_line 26 = .ok (.iaload, 1) := by decide +kernel
theorem dX8_line_27 : decode cX8_line 27 = .ok (.invokestatic 69, 3) := by decide +kernel
theorem dX8_line_30 : decode cX8_line 30 = .ok (.istore_n 3, 1) := by decide +kernel
theorem dX8_line_31 : decode cX8_line 31 = .ok (.aload_n 0, 1) := by decide +kernel
theorem dX8_line_32 : decode cX8_line 32 = .ok (.getfield 7, 3) := by decide +kernel
theorem dX8_line_35 : decode cX8_line 35 = .ok (.iload_n 1, 1) := by decide +kernel
theorem dX8_line_36 : decode cX8_line 36 = .ok (.bipush 9, 2) := by decide +kernel
theorem dX8_line_38 : decode cX8_line 38 = .ok (.iadd, 1) := by decide +kernel
theorem dX8_line_39 : decode cX8_line 39 = .ok (.iaload, 1) := by decide +kernel
theorem dX8_line_40 : decode cX8_line 40 = .ok (.iconst 1, 1) := by decide +kernel
theorem dX8_line_41 : decode cX8_line 41 = .ok (.iadd, 1) := by decide +kernel
theorem dX8_line_42 : decode cX8_line 42 = .ok (.istore 4, 2) := by decide +kernel
theorem dX8_line_44 : decode cX8_line 44 = .ok (.iconst 0, 1) := by decide +kernel
theorem dX8_line_45 : decode cX8_line 45 = .ok (.istore 5, 2) := by decide +kernel
theorem dX8_line_47 : decode cX8_line 47 = .ok (.iload 5, 2) := by decide +kernel
theorem dX8_line_49 : decode cX8_line 49 = .ok (.iconst 3, 1) := by decide +kernel
theorem dX8_line_50 : decode cX8_line 50 = .ok (.if_icmp .ge 65, 3) := by decide +kernel
theorem dX8_line_53 : decode cX8_line 53 = .ok (.aload_n 0, 1) := by decide +kernel
theorem dX8_line_54 : decode cX8_line 54 = .ok (.iload_n 1, 1) := by decide +kernel
theorem dX8_line_55 : decode cX8_line 55 = .ok (.iload 5, 2) := by decide +kernel
theorem dX8_line_57 : decode cX8_line 57 = .ok (.aload_n 0, 1) := by decide +kernel
theorem dX8_line_58 : decode cX8_line 58 = .ok (.getfield 7, 3) := by decide +kernel
theorem dX8_line_61 : decode cX8_line 61 = .ok (.iload_n 1, 1) := by decide +kernel
theorem dX8_line_62 : decode cX8_line 62 = .ok (.iconst 5, 1) := by decide +kernel
theorem dX8_line_63 : decode cX8_line 63 = .ok (.iadd, 1) := by decide +kernel
theorem dX8_line_64 : decode cX8_line 64 = .ok (.iaload, 1) := by decide +kernel
theorem dX8_line_65 : decode cX8_line 65 = .ok (.aload_n 0, 1) := by decide +kernel
theorem dX8_line_66 : decode cX8_line 66 = .ok (.getfield 7, 3) := by decide +kernel
theorem dX8_line_69 : decode cX8_line 69 = .ok (.iload_n 2, 1) := by decide +kernel
theorem dX8_line_70 : decode cX8_line 70 = .ok (.iload 5, 2) := by decide +kernel
theorem dX8_line_72 : decode cX8_line 72 = .ok (.iadd, 1) := by decide +kernel
theorem dX8_line_73 : decode cX8_line 73 = .ok (.iaload, 1) := by decide +kernel
theorem dX8_line_74 : decode cX8_line 74 = .ok (.iload_n 3, 1) := by decide +kernel
theorem dX8_line_75 : decode cX8_line 75 = .ok (.iload 4, 2) := by decide +kernel
theorem dX8_line_77 : decode cX8_line 77 = .ok (.invokestatic 83, 3) := by decide +kernel
theorem dX8_line_80 : decode cX8_line 80 = .ok (.aload_n 0, 1) := by decide +kernel
theorem dX8_line_81 : decode cX8_line 81 = .ok (.getfield 7, 3) := by decide +kernel
theorem dX8_line_84 : decode cX8_line 84 = .ok (.iload_n 1, 1) := by decide +kernel
theorem dX8_line_85 : decode cX8_line 85 = .ok (.iconst 5, 1) := by decide +kernel
theorem dX8_line_86 : decode cX8_line 86 = .ok (.iadd, 1) := by decide +kernel
theorem dX8_line_87 : decode cX8_line 87 = .ok (.iaload, 1) := by decide +kernel
theorem dX8_line_88 : decode cX8_line 88 = .ok (.aload_n 0, 1) := by decide +kernel
theorem dX8_line_89 : decode cX8_line 89 = .ok (.getfield 7, 3) := by decide +kernel
theorem dX8_line_92 : decode cX8_line 92 = .ok (.iload_n 2, 1) := by decide +kernel
theorem dX8_line_93 : decode cX8_line 93 = .ok (.iload 5, 2) := by decide +kernel
theorem dX8_line_95 : decode cX8_line 95 = .ok (.iadd, 1) := by decide +kernel
theorem dX8_line_96 : decode cX8_line 96 = .ok (.iaload, 1) := by decide +kernel
theorem dX8_line_97 : decode cX8_line 97 = .ok (.iload_n 3, 1) := by decide +kernel
theorem dX8_line_98 : decode cX8_line 98 = .ok (.iload 4, 2) := by decide +kernel
theorem dX8_line_100 : decode cX8_line 100 = .ok (.iconst 1, 1) := by decide +kernel
theorem dX8_line_101 : decode cX8_line 101 = .ok (.isub, 1) := by decide +kernel
theorem dX8_line_102 : decode cX8_line 102 = .ok (.invokestatic 83, 3) := by decide +kernel
theorem dX8_line_105 : decode cX8_line 105 = .ok (.isub, 1) := by decide +kernel
theorem dX8_line_106 : decode cX8_line 106 = .ok (.invokevirtual 86, 3) := by decide +kernel
theorem dX8_line_109 : decode cX8_line 109 = .ok (.iinc 5 1, 3) := by decide +kernel
theorem dX8_line_112 : decode cX8_line 112 = .ok (.goto (-65), 3) := by decide +kernel
theorem dX8_line_115 : decode cX8_line 115 = .ok (.return_, 1) := by decide +kernel
theorem dX8_even_0 : decode cX8_even 0 = .ok (.iload_n 1, 1) := by decide +kernel
theorem dX8_even_1 : decode cX8_even 1 = .ok (.bipush 6, 2) := by decide +kernel
theorem dX8_even_3 : decode cX8_even 3 = .ok (.iadd, 1) := by decide +kernel
theorem dX8_even_4 : decode cX8_even 4 = .ok (.istore_n 2, 1) := by decide +kernel
theorem dX8_even_5 : decode cX8_even 5 = .ok (.aload_n 0, 1) := by decide +kernel
theorem dX8_even_6 : decode cX8_even 6 = .ok (.getfield 7, 3) := by decide +kernel
theorem dX8_even_9 : decode cX8_even 9 = .ok (.iload_n 2, 1) := by decide +kernel
theorem dX8_even_10 : decode cX8_even 10 = .ok (.iaload, 1) := by decide +kernel
theorem dX8_even_11 : decode cX8_even 11 = .ok (.aload_n 0, 1) := by decide +kernel
theorem dX8_even_12 : decode cX8_even 12 = .ok (.getfield 7, 3) := by decide +kernel
theorem dX8_even_15 : decode cX8_even 15 = .ok (.iload_n 2, 1) := by decide +kernel
theorem dX8_even_16 : decode cX8_even 16 = .ok (.iconst 1, 1) := by decide +kernel
theorem dX8_even_17 : decode cX8_even 17 = .ok (.iadd, 1) := by decide +kernel
theorem dX8_even_18 : decode cX8_even 18 = .ok (.iaload, 1) := by decide +kernel
theorem dX8_even_19 : decode cX8_even 19 = .ok (.aload_n 0, 1) := by decide +kernel
theorem dX8_even_20 : decode cX8_even 20 = .ok (.getfield 7, 3) := by decide +kernel
theorem dX8_even_23 : decode cX8_even 23 = .ok (.iload_n 2, 1) := by decide +kernel
theorem dX8_even_24 : decode cX8_even 24 = .ok (.iconst 2, 1) := by decide +kernel
theorem dX8_even_25 : decode cX8_even 25 = .ok (.iadd, 1) := by decide +kernel
theorem dX8_even_26 : decode cX8_even 26 = .ok (.iaload, 1) := by decide +kernel
theorem dX8_even_27 : decode cX8_even 27 = .ok (.invokestatic 69, 3) := by decide +kernel
theorem dX8_even_30 : decode cX8_even 30 = .ok (.istore_n 3, 1) := by decide +kernel
theorem dX8_even_31 : decode cX8_even 31 = .ok (.aload_n 0, 1) := by decide +kernel
theorem dX8_even_32 : decode cX8_even 32 = .ok (.getfield 7, 3) := by decide +kernel
theorem dX8_even_35 : decode cX8_even 35 = .ok (.iload_n 1, 1) := by decide +kernel
theorem dX8_even_36 : decode cX8_even 36 = .ok (.bipush 9, 2) := by decide +kernel
theorem dX8_even_38 : decode cX8_even 38 = .ok (.iadd, 1) := by decide +kernel
theorem dX8_even_39 : decode cX8_even 39 = .ok (.iaload, 1) := by decide +kernel
theorem dX8_even_40 : decode cX8_even 40 = .ok (.istore 4, 2) := by decide +kernel
theorem dX8_even_42 : decode cX8_even 42 = .ok (.iconst 1, 1) := by decide +kernel
theorem dX8_even_43 : decode cX8_even 43 = .ok (.istore 5, 2) := by decide +kernel
theorem dX8_even_45 : decode cX8_even 45 = .ok (.iload 5, 2) := by decide +kernel
theorem dX8_even_47 : decode cX8_even 47 = .ok (.iload_n 3, 1) := by decide +kernel
theorem dX8_even_48 : decode cX8_even 48 = .ok (.if_icmp .gt 87, 3) := by decide +kernel
theorem dX8_even_51 : decode cX8_even 51 = .ok (.iconst 0, 1) := by decide +kernel
theorem dX8_even_52 : decode cX8_even 52 = .ok (.istore 6, 2) := by decide +kernel
theorem dX8_even_54 : decode cX8_even 54 = .ok (.iload 6, 2) := by decide +kernel
theorem dX8_even_56 : decode cX8_even 56 = .ok (.iconst 3, 1) := by decide +kernel
theorem dX8_even_57 : decode cX8_even 57 = .ok (.if_icmp .ge 72, 3) := by decide +kernel
theorem dX8_even_60 : decode cX8_even 60 = .ok (.iconst 2, 1) := by decide +kernel
theorem dX8_even_61 : decode cX8_even 61 = .ok (.aload_n 0, 1) := by decide +kernel
theorem dX8_even_62 : decode cX8_even 62 = .ok (.getfield 7, 3) := by decide +kernel
theorem dX8_even_65 : decode cX8_even 65 = .ok (.iload_n 2, 1) := by decide +kernel
theorem dX8_even_66 : decode cX8_even 66 = .ok (.iload 6, 2) := by decide +kernel
theorem dX8_even_68 : decode cX8_even 68 = .ok (.iadd, 1) := by decide +kernel
theorem dX8_even_69 : decode cX8_even 69 = .ok (.iaload, 1) := by decide +kernel
theorem dX8_even_70 : decode cX8_even 70 = .ok (.iload_n 3, 1) := by decide +kernel
theorem dX8_even_71 : decode cX8_even 71 = .ok (.iload 5, 2) := by decide +kernel
theorem dX8_even_73 : decode cX8_even 73 = .ok (.invokestatic 83, 3) := by decide +kernel
theorem dX8_even_76 : decode cX8_even 76 = .ok (.iconst 2, 1) := by decide +kernel
theorem dX8_even_77 : decode cX8_even 77 = .ok (.aload_n 0, 1) := by decide +kernel
theorem dX8_even_78 : decode cX8_even 78 = .ok (.getfield 7, 3) := by decide +kernel
theorem dX8_even_81 : decode cX8_even 81 = .ok (.iload_n 2, 1) := by decide +kernel
theorem dX8_even_82 : decode cX8_even 82 = .ok (.iload 6, 2) := by decide +kernel
theorem dX8_even_84 : decode cX8_even 84 = .ok (.iadd, 1) := by decide +kernel
theorem dX8_even_85 : decode cX8_even 85 = .ok (.iaload, 1) := by decide +kernel
theorem dX8_even_86 : decode cX8_even 86 = .ok (.iload_n 3, 1) := by decide +kernel
theorem dX8_even_87 : decode cX8_even 87 = .ok (.iload 5, 2) := by decide +kernel
theorem dX8_even_89 : decode cX8_even 89 = .ok (.iconst 1, 1) := by decide +kernel
theorem dX8_even_90 : decode cX8_even 90 = .ok (.isub, 1) := by decide +kernel
theorem dX8_even_91 : decode cX8_even 91 = .ok (.invokestatic 83, 3) := by decide +kernel
theorem dX8_even_94 : decode cX8_even 94 = .ok (.isub, 1) := by decide +kernel
theorem dX8_even_95 : decode cX8_even 95 = .ok (.istore 7, 2) := by decide +kernel
theorem dX8_even_97 : decode cX8_even 97 = .ok (.iload 7, 2) := by decide +kernel
theorem dX8_even_99 : decode cX8_even 99 = .ok (.ifCond .eq 24, 3) := by decide +kernel
theorem dX8_even_102 : decode cX8_even 102 = .ok (.aload_n 0, 1) := by decide +kernel
theorem dX8_even_103 : decode cX8_even 103 = .ok (.iload_n 1, 1) := by decide +kernel
theorem dX8_even_104 : decode cX8_even 104 = .ok (.iload 6, 2) := by decide +kernel
theorem dX8_even_106 : decode cX8_even 106 = .ok (.iload 4, 2) := by decide +kernel
theorem dX8_even_108 : decode cX8_even 108 = .ok (.ifCond .ne 8, 3) := by decide +kernel
theorem dX8_even_111 : decode cX8_even 111 = .ok (.iload 7, 2) := by decide +kernel
theorem dX8_even_113 : decode cX8_even 113 = .ok (.goto 4, 3) := by decide +kernel
theorem dX8_even_116 : decode cX8_even 116 = .ok (.iconst 0, 1) := by decide +kernel
theorem dX8_even_117 : decode cX8_even 117 = .ok (.invokevirtual 86, 3) := by decide +kernel
theorem dX8_even_120 : decode cX8_even 120 = .ok (.iinc 4 (-1), 3) := by decide +kernel
theorem dX8_even_123 : decode cX8_even 123 = .ok (.iinc 6 1, 3) := by decide +kernel
theorem dX8_even_126 : decode cX8_even 126 = .ok (.goto (-72), 3) := by decide +kernel
theorem dX8_even_129 : decode cX8_even 129 = .ok (.iinc 5 1, 3) := by decide +kernel
theorem dX8_even_132 : decode cX8_even 132 = .ok (.goto (-87), 3) := by decide +kernel
theorem dX8_even_135 : decode cX8_even 135 = .ok (.return_, 1) := by decide +kernel
theorem dX8_arc_0 : decode cX8_arc 0 = .ok (.aload_n 0, 1) := by decide +kernel
theorem dX8_arc_1 : decode cX8_arc 1 = .ok (.getfield 7, 3) := by decide +kernel
theorem dX8_arc_4 : decode cX8_arc 4 = .ok (.iload_n 1, 1) := by decide +kernel
theorem dX8_arc_5 : decode cX8_arc 5 = .ok (.iconst 5, 1) := by decide +kernel
theorem dX8_arc_6 : decode cX8_arc 6 = .ok (.iadd, 1) := by decide +kernel
theorem dX8_arc_7 : decode cX8_arc 7 = .ok (.iaload, 1) := by decide +kernel
theorem dX8_arc_8 : decode cX8_arc 8 = .ok (.iconst 3, 1) := by decide +kernel
theorem dX8_arc_9 : decode cX8_arc 9 = .ok (.if_icmp .ne 7, 3) := by decide +kernel
theorem dX8_arc_12 : decode cX8_arc 12 = .ok (.iconst 1, 1) := by decide +kernel
theorem dX8_arc_13 : decode cX8_arc 13 = .ok (.goto 4, 3) := by decide +kernel
theorem dX8_arc_16 : decode cX8_arc 16 = .ok (.iconst (-1), 1) := by decide +kernel
theorem dX8_arc_17 : decode cX8_arc 17 = .ok (.istore_n 2, 1) := by decide +kernel
theorem dX8_arc_18 : decode cX8_arc 18 = .ok (.iload_n 2, 1) := by decide +kernel
theorem dX8_arc_19 : decode cX8_arc 19 = .ok (.ineg, 1) := by decide +kernel
theorem dX8_arc_20 : decode cX8_arc 20 = .ok (.aload_n 0, 1) := by decide +kernel
theorem dX8_arc_21 : decode cX8_arc 21 = .ok (.getfield 7, 3) := by decide +kernel
theorem dX8_arc_24 : decode cX8_arc 24 = .ok (.iload_n 1, 1) := by decide +kernel
theorem dX8_arc_25 : decode cX8_arc 25 = .ok (.bipush 11, 2) := by decide +kernel
theorem dX8_arc_27 : decode cX8_arc 27 = .ok (.iadd, 1) := by decide +kernel
theorem dX8_arc_28 : decode cX8_arc 28 = .ok (.iaload, 1) := by decide +kernel
theorem dX8_arc_29 : decode cX8_arc 29 = .ok (.invokestatic 90, 3) := by decide +kernel
theorem dX8_arc_32 : decode cX8_arc 32 = .ok (.imul, 1) := by decide +kernel
theorem dX8_arc_33 : decode cX8_arc 33 = .ok (.istore_n 3, 1) := by decide +kernel
theorem dX8_arc_34 : decode cX8_arc 34 = .ok (.iload_n 2, 1) := by decide +kernel
theorem dX8_arc_35 : decode cX8_arc 35 = .ok (.aload_n 0, 1) := by decide +kernel
theorem dX8_arc_36 : decode cX8_arc 36 = .ok (.getfield 7, 3) := by decide +kernel
theorem dX8_arc_39 : decode cX8_arc 39 = .ok (.iload_n 1, 1) := by decide +kernel
theorem dX8_arc_40 : decode cX8_arc 40 = .ok (.bipush 10, 2) := by decide +kernel
theorem dX8_arc_42 : decode cX8_arc 42 = .ok (.iadd, 1) := by decide +kernel
theorem dX8_arc_43 : decode cX8_arc 43 = .ok (.iaload, 1) := by decide +kernel
theorem dX8_arc_44 : decode cX8_arc 44 = .ok (.invokestatic 90, 3) := by decide +kernel
theorem dX8_arc_47 : decode cX8_arc 47 = .ok (.imul, 1) := by decide +kernel
theorem dX8_arc_48 : decode cX8_arc 48 = .ok (.istore 4, 2) := by decide +kernel
theorem dX8_arc_50 : decode cX8_arc 50 = .ok (.aload_n 0, 1) := by decide +kernel
theorem dX8_arc_51 : decode cX8_arc 51 = .ok (.getfield 7, 3) := by decide +kernel
theorem dX8_arc_54 : decode cX8_arc 54 = .ok (.iload_n 1, 1) := by decide +kernel
theorem dX8_arc_55 : decode cX8_arc 55 = .ok (.bipush 6, 2) := by decide +kernel
theorem dX8_arc_57 : decode cX8_arc 57 = .ok (.iadd, 1) := by decide +kernel
theorem dX8_arc_58 : decode cX8_arc 58 = .ok (.iaload, 1) := by decide +kernel
theorem dX8_arc_59 : decode cX8_arc 59 = .ok (.aload_n 0, 1) := by decide +kernel
theorem dX8_arc_60 : decode cX8_arc 60 = .ok (.getfield 7, 3) := by decide +kernel
theorem dX8_arc_63 : decode cX8_arc 63 = .ok (.iload_n 1, 1) := by decide +kernel
theorem dX8_arc_64 : decode cX8_arc 64 = .ok (.bipush 6, 2) := by decide +kernel
theorem dX8_arc_66 : decode cX8_arc 66 = .ok (.iadd, 1) := by decide +kernel
theorem dX8_arc_67 : decode cX8_arc 67 = .ok (.iaload, 1) := by decide +kernel
theorem dX8_arc_68 : decode cX8_arc 68 = .ok (.imul, 1) := by decide +kernel
theorem dX8_arc_69 : decode cX8_arc 69 = .ok (.aload_n 0, 1) := by decide +kernel
theorem dX8_arc_70 : decode cX8_arc 70 = .ok (.getfield 7, 3) := by decide +kernel
theorem dX8_arc_73 : decode cX8_arc 73 = .ok (.iload_n 1, 1) := by decide +kernel
theorem dX8_arc_74 : decode cX8_arc 74 = .ok (.bipush 6, 2) := by decide +kernel
theorem dX8_arc_76 : decode cX8_arc 76 = .ok (.iadd, 1) := by decide +kernel
theorem dX8_arc_77 : decode cX8_arc 77 = .ok (.iconst 1, 1) := by decide +kernel
theorem dX8_arc_78 : decode cX8_arc 78 = .ok (.iadd, 1) := by decide +kernel
theorem dX8_arc_79 : decode cX8_arc 79 = .ok (.iaload, 1) := by decide +kernel
theorem dX8_arc_80 : decode cX8_arc 80 = .ok (.aload_n 0, 1) := by decide +kernel
theorem dX8_arc_81 : decode cX8_arc 81 = .ok (.getfield 7, 3) := by decide +kernel
theorem dX8_arc_84 : decode cX8_arc 84 = .ok (.iload_n 1, 1) := by decide +kernel
theorem dX8_arc_85 : decode cX8_arc 85 = .ok (.bipush 6, 2) := by decide +kernel
theorem dX8_arc_87 : decode cX8_arc 87 = .ok (.iadd, 1) := by decide +kernel
theorem dX8_arc_88 : decode cX8_arc 88 = .ok (.iconst 1, 1) := by decide +kernel
theorem dX8_arc_89 : decode cX8_arc 89 = .ok (.iadd, 1) := by decide +kernel
theorem dX8_arc_90 : decode cX8_arc 90 = .ok (.iaload, 1) := by decide +kernel
theorem dX8_arc_91 : decode cX8_arc 91 = .ok (.imul, 1) := by decide +kernel
theorem dX8_arc_92 : decode cX8_arc 92 = .ok (.iadd, 1) := by decide +kernel
theorem dX8_arc_93 : decode cX8_arc 93 = .ok (.istore 5, 2) := by decide +kernel
theorem dX8_arc_95 : decode cX8_arc 95 = .ok (.iconst 0, 1) := by decide +kernel
theorem dX8_arc_96 : decode cX8_arc 96 = .ok (.istore 6, 2) := by decide +kernel
theorem dX8_arc_98 : decode cX8_arc 98 = .ok (.iconst 0, 1) := by decide +kernel
theorem dX8_arc_99 : decode cX8_arc 99 = .ok (.istore 7, 2) := by decide +kernel
theorem dX8_arc_101 : decode cX8_arc 101 = .ok (.iconst 1, 1) := by decide +kernel
theorem dX8_arc_102 : decode cX8_arc 102 = .ok (.istore 8, 2) := by decide +kernel
theorem dX8_arc_104 : decode cX8_arc 104 = .ok (.iload 8, 2) := by decide +kernel
theorem dX8_arc_106 : decode cX8_arc 106 = .ok (.iconst 4, 1) := by decide +kernel
theorem dX8_arc_107 : decode cX8_arc 107 = .ok (.if_icmp .ge 155, 3) := by decide +kernel
theorem dX8_arc_110 : decode cX8_arc 110 = .ok (.iload 8, 2) := by decide +kernel
theorem dX8_arc_112 : decode cX8_arc 112 = .ok (.iconst 2, 1) := by decide +kernel
theorem dX8_arc_113 : decode cX8_arc 113 = .ok (.if_icmp .eq 7, 3) := by decide +kernel
theorem dX8_arc_116 : decode cX8_arc 116 = .ok (.iload_n 3, 1) := by decide +kernel
theorem dX8_arc_117 : decode cX8_arc 117 = .ok (.ifCond .eq 18, 3) := by decide +kernel
theorem dX8_arc_120 : decode cX8_arc 120 = .ok (.iload 8, 2) := by decide +kernel
theorem dX8_arc_122 : decode cX8_arc 122 = .ok (.iconst 1, 1) := by decide +kernel
theorem dX8_arc_123 : decode cX8_arc 123 = .ok (.if_icmp .eq 8, 3) := by decide +kernel
theorem dX8_arc_126 : decode cX8_arc 126 = .ok (.iload 4, 2) := by decide +kernel
theorem dX8_arc_128 : decode cX8_arc 128 = .ok (.ifCond .eq 7, 3) := by decide +kernel
theorem dX8_arc_131 : decode cX8_arc 131 = .ok (.iconst 1, 1) := by decide +kernel
theorem dX8_arc_132 : decode cX8_arc 132 = .ok (.goto 4, 3) := by decide +kernel
theorem dX8_arc_135 : decode cX8_arc 135 = .ok (.iconst 0, 1) := by decide +kernel
theorem dX8_arc_136 : decode cX8_arc 136 = .ok (.istore 9, 2) := by decide +kernel
theorem dX8_arc_138 : decode cX8_arc 138 = .ok (.aload_n 0, 1) := by decide +kernel
theorem dX8_arc_139 : decode cX8_arc 139 = .ok (.getfield 7, 3) := by decide +kernel
theorem dX8_arc_142 : decode cX8_arc 142 = .ok (.iload_n 1, 1) := by decide +kernel
theorem dX8_arc_143 : decode cX8_arc 143 = .ok (.bipush 10, 2) := by decide +kernel
theorem dX8_arc_145 : decode cX8_arc 145 = .ok (.iadd, 1) := by decide +kernel
theorem dX8_arc_146 : decode cX8_arc 146 = .ok (.iaload, 1) := by decide +kernel
theorem dX8_arc_147 : decode cX8_arc 147 = .ok (.iload 8, 2) := by decide +kernel
theorem dX8_arc_149 : decode cX8_arc 149 = .ok (.iconst 2, 1) := by decide +kernel
theorem dX8_arc_150 : decode cX8_arc 150 = .ok (.if_icmp .ne 7, 3) := by decide +kernel
theorem dX8_arc_153 : decode cX8_arc 153 = .ok (.iconst 0, 1) := by decide +kernel
theorem dX8_arc_154 : decode cX8_arc 154 = .ok (.goto 4, 3) := by decide +kernel
theorem dX8_arc_157 : decode cX8_arc 157 = .ok (.iload_n 3, 1) := by decide +kernel
theorem dX8_arc_158 : decode cX8_arc 158 = .ok (.iadd, 1) := by decide +kernel
theorem dX8_arc_159 : decode cX8_arc 159 = .ok (.istore 10, 2) := by decide +kernel
theorem dX8_arc_161 : decode cX8_arc 161 = .ok (.aload_n 0, 1) := by decide +kernel
theorem dX8_arc_162 : decode cX8_arc 162 = .ok (.getfield 7, 3) := by decide +kernel
theorem dX8_arc_165 : decode cX8_arc 165 = .ok (.iload_n 1, 1) := by decide +kernel
theorem dX8_arc_166 : decode cX8_arc 166 = .ok (.bipush 11, 2) := by decide +kernel
theorem dX8_arc_168 : decode cX8_arc 168 = .ok (.iadd, 1) := by decide +kernel
theorem dX8_arc_169 : decode cX8_arc 169 = .ok (.iaload, 1) := by decide +kernel
theorem dX8_arc_170 : decode cX8_arc 170 = .ok (.iload 8, 2) := by decide +kernel
theorem dX8_arc_172 : decode cX8_arc 172 = .ok (.iconst 1, 1) := by decide +kernel
theorem dX8_arc_173 : decode cX8_arc 173 = .ok (.if_icmp .ne 7, 3) := by decide +kernel
theorem dX8_arc_176 : decode cX8_arc 176 = .ok (.iconst 0, 1) := by decide +kernel
theorem dX8_arc_177 : decode cX8_arc 177 = .ok (.goto 5, 3) := by decide +kernel
theorem dX8_arc_180 : decode cX8_arc 180 = .ok (.iload 4, 2) := by decide +kernel
theorem dX8_arc_182 : decode cX8_arc 182 = .ok (.iadd, 1) := by decide +kernel
theorem dX8_arc_183 : decode cX8_arc 183 = .ok (.istore 11, 2) := by decide +kernel
theorem dX8_arc_185 : decode cX8_arc 185 = .ok (.iload 10, 2) := by decide +kernel
theorem dX8_arc_187 : decode cX8_arc 187 = .ok (.iload 10, 2) := by decide +kernel
theorem dX8_arc_189 : decode cX8_arc 189 = .ok (.imul, 1) := by decide +kernel
theorem dX8_arc_190 : decode cX8_arc 190 = .ok (.iload 11, 2) := by decide +kernel
theorem dX8_arc_192 : decode cX8_arc 192 = .ok (.iload 11, 2) := by decide +kernel
theorem dX8_arc_194 : decode cX8_arc 194 = .ok (.imul, 1) := by decide +kernel
theorem dX8_arc_195 : decode cX8_arc 195 = .ok (.iadd, 1) := by decide +kernel
theorem dX8_arc_196 : decode cX8_arc 196 = .ok (.iload 5, 2) := by decide +kernel
theorem dX8_arc_198 : decode cX8_arc 198 = .ok (.isub, 1) := by decide +kernel
theorem dX8_arc_199 : decode cX8_arc 199 = .ok (.invokestatic 65, 3) := by decide +kernel
theorem dX8_arc_202 : decode cX8_arc 202 = .ok (.istore 12, 2) := by decide +kernel
theorem dX8_arc_204 : decode cX8_arc 204 = .ok (.iload 9, 2) := by decide +kernel
theorem dX8_arc_206 : decode cX8_arc 206 = .ok (.ifCond .eq 19, 3) := by decide +kernel
theorem dX8_arc_209 : decode cX8_arc 209 = .ok (.iload 6, 2) := by decide +kernel
theorem dX8_arc_211 : decode cX8_arc 211 = .ok (.ifCond .eq 10, 3) := by decide +kernel
theorem dX8_arc_214 : decode cX8_arc 214 = .ok (.iload 12, 2) := by decide +kernel
theorem dX8_arc_216 : decode cX8_arc 216 = .ok (.iload 7, 2) := by decide +kernel
theorem dX8_arc_218 : decode cX8_arc 218 = .ok (.if_icmp .ge 7, 3) := by decide +kernel
theorem dX8_arc_221 : decode cX8_arc 221 = .ok (.iconst 1, 1) := by decide +kernel
theorem dX8_arc_222 : decode cX8_arc 222 = .ok (.goto 4, 3) := by decide +kernel
theorem dX8_arc_225 : decode cX8_arc 225 = .ok (.iconst 0, 1) := by decide +kernel
theorem dX8_arc_226 : decode cX8_arc 226 = .ok (.istore 13, 2) := by decide +kernel
theorem dX8_arc_228 : decode cX8_arc 228 = .ok (.iload 13, 2) := by decide +kernel
theorem dX8_arc_230 : decode cX8_arc 230 = .ok (.ifCond .eq 8, 3) := by decide +kernel
theorem dX8_arc_233 : decode cX8_arc 233 = .ok (.iload 8, 2) := by decide +kernel
theorem dX8_arc_235 : decode cX8_arc 235 = .ok (.goto 5, 3) := by decide +kernel
theorem dX8_arc_238 : decode cX8_arc 238 = .ok (.iload 6, 2) := by decide +kernel
theorem dX8_arc_240 : decode cX8_arc 240 = .ok (.istore 6, 2) := by decide +kernel
theorem dX8_arc_242 : decode cX8_arc 242 = .ok (.iload 13, 2) := by decide +kernel
theorem dX8_arc_244 : decode cX8_arc 244 = .ok (.ifCond .eq 8, 3) := by decide +kernel
theorem dX8_arc_247 : decode cX8_arc 247 = .ok (.iload 12, 2) := by decide +kernel
theorem dX8_arc_249 : decode cX8_arc 249 = .ok (.goto 5, 3) := by decide +kernel
theorem dX8_arc_252 : decode cX8_arc 252 = .ok (.iload 7, 2) := by decide +kernel
theorem dX8_arc_254 : decode cX8_arc 254 = .ok (.istore 7, 2) := by decide +kernel
theorem dX8_arc_256 : decode cX8_arc 256 = .ok (.iinc 8 1, 3) := by decide +kernel
theorem dX8_arc_259 : decode cX8_arc 259 = .ok (.goto (-155), 3) := by decide +kernel
theorem dX8_arc_262 : decode cX8_arc 262 = .ok (.iload 6, 2) := by decide +kernel
theorem dX8_arc_264 : decode cX8_arc 264 = .ok (.iconst 2, 1) := by decide +kernel
theorem dX8_arc_265 : decode cX8_arc 265 = .ok (.if_icmp .ne 7, 3) := by decide +kernel
theorem dX8_arc_268 : decode cX8_arc 268 = .ok (.iconst 0, 1) := by decide +kernel
theorem dX8_arc_269 : decode cX8_arc 269 = .ok (.goto 4, 3) := by decide +kernel
theorem dX8_arc_272 : decode cX8_arc 272 = .ok (.iload_n 3, 1) := by decide +kernel
theorem dX8_arc_273 : decode cX8_arc 273 = .ok (.istore 8, 2) := by decide +kernel
theorem dX8_arc_275 : decode cX8_arc 275 = .ok (.iload 6, 2) := by decide +kernel
theorem dX8_arc_277 : decode cX8_arc 277 = .ok (.iconst 1, 1) := by decide +kernel
theorem dX8_arc_278 : decode cX8_arc 278 = .ok (.if_icmp .ne 7, 3) := by decide +kernel
theorem dX8_arc_281 : decode cX8_arc 281 = .ok (.iconst 0, 1) := by decide +kernel
theorem dX8_arc_282 : decode cX8_arc 282 = .ok (.goto 5, 3) := by decide +kernel
theorem dX8_arc_285 : decode cX8_arc 285 = .ok (.iload 4, 2) := by decide +kernel
theorem dX8_arc_287 : decode cX8_arc 287 = .ok (.istore 9, 2) := by decide +kernel
theorem dX8_arc_289 : decode cX8_arc 289 = .ok (.aload_n 0, 1) := by decide +kernel
theorem dX8_arc_290 : decode cX8_arc 290 = .ok (.getfield 7, 3) := by decide +kernel
theorem dX8_arc_293 : decode cX8_arc 293 = .ok (.iload_n 1, 1) := by decide +kernel
theorem dX8_arc_294 : decode cX8_arc 294 = .ok (.bipush 10, 2) := by decide +kernel
theorem dX8_arc_296 : decode cX8_arc 296 = .ok (.iadd, 1) := by decide +kernel
theorem dX8_arc_297 : decode cX8_arc 297 = .ok (.dup2, 1) := by decide +kernel
theorem dX8_arc_298 : decode cX8_arc 298 = .ok (.iaload, 1) := by decide +kernel
theorem dX8_arc_299 : decode cX8_arc 299 = .ok (.iload 8, 2) := by decide +kernel
theorem dX8_arc_301 : decode cX8_arc 301 = .ok (.iadd, 1) := by decide +kernel
theorem dX8_arc_302 : decode cX8_arc 302 = .ok (.iastore, 1) := by decide +kernel
theorem dX8_arc_303 : decode cX8_arc 303 = .ok (.aload_n 0, 1) := by decide +kernel
theorem dX8_arc_304 : decode cX8_arc 304 = .ok (.getfield 7, 3) := by decide +kernel
theorem dX8_arc_307 : decode cX8_arc 307 = .ok (.iload_n 1, 1) := by decide +kernel
theorem dX8_arc_308 : decode cX8_arc 308 = .ok (.bipush 11, 2) := by decide +kernel
theorem dX8_arc_310 : decode cX8_arc 310 = .ok (.iadd, 1) := by decide +kernel
theorem dX8_arc_311 : decode cX8_arc 311 = .ok (.dup2, 1) := by decide +kernel
theorem dX8_arc_312 : decode cX8_arc 312 = .ok (.iaload, 1) := by decide +kernel
theorem dX8_arc_313 : decode cX8_arc 313 = .ok (.iload 9, 2) := by decide +kernel
theorem dX8_arc_315 : decode cX8_arc 315 = .ok (.iadd, 1) := by decide +kernel
theorem dX8_arc_316 : decode cX8_arc 316 = .ok (.iastore, 1) := by decide +kernel
theorem dX8_arc_317 : decode cX8_arc 317 = .ok (.aload_n 0, 1) := by decide +kernel
theorem dX8_arc_318 : decode cX8_arc 318 = .ok (.iload_n 1, 1) := by decide +kernel
theorem dX8_arc_319 : decode cX8_arc 319 = .ok (.iconst 0, 1) := by decide +kernel
theorem dX8_arc_320 : decode cX8_arc 320 = .ok (.iload 8, 2) := by decide +kernel
theorem dX8_arc_322 : decode cX8_arc 322 = .ok (.invokevirtual 86, 3) := by decide +kernel
theorem dX8_arc_325 : decode cX8_arc 325 = .ok (.aload_n 0, 1) := by decide +kernel
theorem dX8_arc_326 : decode cX8_arc 326 = .ok (.iload_n 1, 1) := by decide +kernel
theorem dX8_arc_327 : decode cX8_arc 327 = .ok (.iconst 1, 1) := by decide +kernel
theorem dX8_arc_328 : decode cX8_arc 328 = .ok (.iload 9, 2) := by decide +kernel
theorem dX8_arc_330 : decode cX8_arc 330 = .ok (.invokevirtual 86, 3) := by decide +kernel
theorem dX8_arc_333 : decode cX8_arc 333 = .ok (.return_, 1) := by decide +kernel
theorem dX8_begins_0 : decode cX8_begins 0 = .ok (.iconst 0, 1) := by decide +kernel
theorem dX8_begins_1 : decode cX8_begins 1 = .ok (.istore_n 2, 1) := by decide +kernel
theorem dX8_begins_2 : decode cX8_begins 2 = .ok (.iload_n 2, 1) := by decide +kernel
theorem dX8_begins_3 : decode cX8_begins 3 = .ok (.iconst 4, 1) := by decide +kernel
theorem dX8_begins_4 : decode cX8_begins 4 = .ok (.if_icmp .ge 30, 3) := by decide +kernel
theorem dX8_begins_7 : decode cX8_begins 7 = .ok (.aload_n 0, 1) := by decide +kernel
theorem dX8_begins_8 : decode cX8_begins 8 = .ok (.getfield 7, 3) := by decide +kernel
theorem dX8_begins_11 : decode cX8_begins 11 = .ok (.iload_n 1, 1) := by decide +kernel
theorem dX8_begins_12 : decode cX8_begins 12 = .ok (.iconst 5, 1) := by decide +kernel
theorem dX8_begins_13 : decode cX8_begins 13 = .ok (.iadd, 1) := by decide +kernel
theorem dX8_begins_14 : decode cX8_begins 14 = .ok (.iload_n 2, 1) := by decide +kernel
theorem dX8_begins_15 : decode cX8_begins 15 = .ok (.iadd, 1) := by decide +kernel
theorem dX8_begins_16 : decode cX8_begins 16 = .ok (.aload_n 0, 1) := by decide +kernel
theorem dX8_begins_17 : decode cX8_begins 17 = .ok (.getfield 7, 3) := by decide +kernel
theorem dX8_begins_20 : decode cX8_begins 20 = .ok (.iload_n 1, 1) := by decide +kernel
theorem dX8_begins_21 : decode cX8_begins 21 = .ok (.bipush 13, 2) := by decide +kernel
theorem dX8_begins_23 : decode cX8_begins 23 = .ok (.iadd, 1) := by decide +kernel
theorem dX8_begins_24 : decode cX8_begins 24 = .ok (.iload_n 2, 1) := by decide +kernel
theorem dX8_begins_25 : decode cX8_begins 25 = .ok (.iadd, 1) := by decide +kernel
theorem dX8_begins_26 : decode cX8_begins 26 = .ok (.iaload, 1) := by decide +kernel
theorem dX8_begins_27 : decode cX8_begins 27 = .ok (.iastore, 1) := by decide +kernel
theorem dX8_begins_28 : decode cX8_begins 28 = .ok (.iinc 2 1, 3) := by decide +kernel
theorem dX8_begins_31 : decode cX8_begins 31 = .ok (.goto (-29), 3) := by decide +kernel
theorem dX8_begins_34 : decode cX8_begins 34 = .ok (.iconst 0, 1) := by decide +kernel
theorem dX8_begins_35 : decode cX8_begins 35 = .ok (.istore_n 2, 1) := by decide +kernel
theorem dX8_begins_36 : decode cX8_begins 36 = .ok (.iload_n 2, 1) := by decide +kernel
theorem dX8_begins_37 : decode cX8_begins 37 = .ok (.iconst 4, 1) := by decide +kernel
theorem dX8_begins_38 : decode cX8_begins 38 = .ok (.aload_n 0, 1) := by decide +kernel
theorem dX8_begins_39 : decode cX8_begins 39 = .ok (.getfield 7, 3) := by decide +kernel
theorem dX8_begins_42 : decode cX8_begins 42 = .ok (.iload_n 1, 1) := by decide +kernel
theorem dX8_begins_43 : decode cX8_begins 43 = .ok (.bipush 12, 2) := by decide +kernel
theorem dX8_begins_45 : decode cX8_begins 45 = .ok (.iadd, 1) := by decide +kernel
theorem dX8_begins_46 : decode cX8_begins 46 = .ok (.iaload, 1) := by decide +kernel
theorem dX8_begins_47 : decode cX8_begins 47 = .ok (.iconst 1, 1) := by decide +kernel
theorem dX8_begins_48 : decode cX8_begins 48 = .ok (.isub, 1) := by decide +kernel
theorem dX8_begins_49 : decode cX8_begins 49 = .ok (.imul, 1) := by decide +kernel
theorem dX8_begins_50 : decode cX8_begins 50 = .ok (.if_icmp .ge 33, 3) := by decide +kernel
theorem dX8_begins_53 : decode cX8_begins 53 = .ok (.aload_n 0, 1) := by decide +kernel
theorem dX8_begins_54 : decode cX8_begins 54 = .ok (.getfield 7, 3) := by decide +kernel
theorem dX8_begins_57 : decode cX8_begins 57 = .ok (.iload_n 1, 1) := by decide +kernel
theorem dX8_begins_58 : decode cX8_begins 58 = .ok (.bipush 13, 2) := by decide +kernel
theorem dX8_begins_60 : decode cX8_begins 60 = .ok (.iadd, 1) := by decide +kernel
theorem dX8_begins_61 : decode cX8_begins 61 = .ok (.iload_n 2, 1) := by decide +kernel
theorem dX8_begins_62 : decode cX8_begins 62 = .ok (.iadd, 1) := by decide +kernel
theorem dX8_begins_63 : decode cX8_begins 63 = .ok (.aload_n 0, 1) := by decide +kernel
theorem dX8_begins_64 : decode cX8_begins 64 = .ok (.getfield 7, 3) := by decide +kernel
theorem dX8_begins_67 : decode cX8_begins 67 = .ok (.iload_n 1, 1) := by decide +kernel
theorem dX8_begins_68 : decode cX8_begins 68 = .ok (.bipush 13, 2) := by decide +kernel
theorem dX8_begins_70 : decode cX8_begins 70 = .ok (.iadd, 1) := by decide +kernel
theorem dX8_begins_71 : decode cX8_begins 71 = .ok (.iload_n 2, 1) := by decide +kernel
theorem dX8_begins_72 : decode cX8_begins 72 = .ok (.iadd, 1) := by decide +kernel
theorem dX8_begins_73 : decode cX8_begins 73 = .ok (.iconst 4, 1) := by decide +kernel
theorem dX8_begins_74 : decode cX8_begins 74 = .ok (.iadd, 1) := by decide +kernel
theorem dX8_begins_75 : decode cX8_begins 75 = .ok (.iaload, 1) := by decide +kernel
theorem dX8_begins_76 : decode cX8_begins 76 = .ok (.iastore, 1) := by decide +kernel
theorem dX8_begins_77 : decode cX8_begins 77 = .ok (.iinc 2 1, 3) := by decide +kernel
theorem dX8_begins_80 : decode cX8_begins 80 = .ok (.goto (-44), 3) := by decide +kernel
theorem dX8_begins_83 : decode cX8_begins 83 = .ok (.aload_n 0, 1) := by decide +kernel
theorem dX8_begins_84 : decode cX8_begins 84 = .ok (.getfield 7, 3) := by decide +kernel
theorem dX8_begins_87 : decode cX8_begins 87 = .ok (.iload_n 1, 1) := by decide +kernel
theorem dX8_begins_88 : decode cX8_begins 88 = .ok (.bipush 12, 2) := by decide +kernel
theorem dX8_begins_90 : decode cX8_begins 90 = .ok (.iadd, 1) := by decide +kernel
theorem dX8_begins_91 : decode cX8_begins 91 = .ok (.dup2, 1) := by decide +kernel
theorem dX8_begins_92 : decode cX8_begins 92 = .ok (.iaload, 1) := by decide +kernel
theorem dX8_begins_93 : decode cX8_begins 93 = .ok (.iconst 1, 1) := by decide +kernel
theorem dX8_begins_94 : decode cX8_begins 94 = .ok (.isub, 1) := by decide +kernel
theorem dX8_begins_95 : decode cX8_begins 95 = .ok (.iastore, 1) := by decide +kernel
theorem dX8_begins_96 : decode cX8_begins 96 = .ok (.aload_n 0, 1) := by decide +kernel
theorem dX8_begins_97 : decode cX8_begins 97 = .ok (.getfield 7, 3) := by decide +kernel
theorem dX8_begins_100 : decode cX8_begins 100 = .ok (.iload_n 1, 1) := by decide +kernel
theorem dX8_begins_101 : decode cX8_begins 101 = .ok (.bipush 9, 2) := by decide +kernel
theorem dX8_begins_103 : decode cX8_begins 103 = .ok (.iadd, 1) := by decide +kernel
theorem dX8_begins_104 : decode cX8_begins 104 = .ok (.iconst 0, 1) := by decide +kernel
theorem dX8_begins_105 : decode cX8_begins 105 = .ok (.iastore, 1) := by decide +kernel
theorem dX8_begins_106 : decode cX8_begins 106 = .ok (.aload_n 0, 1) := by decide +kernel
theorem dX8_begins_107 : decode cX8_begins 107 = .ok (.getfield 7, 3) := by decide +kernel
theorem dX8_begins_110 : decode cX8_begins 110 = .ok (.iload_n 1, 1) := by decide +kernel
theorem dX8_begins_111 : decode cX8_begins 111 = .ok (.bipush 10, 2) := by decide +kernel
theorem dX8_begins_113 : decode cX8_begins 113 = .ok (.iadd, 1) := by decide +kernel
theorem dX8_begins_114 : decode cX8_begins 114 = .ok (.aload_n 0, 1) := by decide +kernel
theorem dX8_begins_115 : decode cX8_begins 115 = .ok (.getfield 7, 3) := by decide +kernel
theorem dX8_begins_118 : decode cX8_begins 118 = .ok (.iload_n 1, 1) := by decide +kernel
theorem dX8_begins_119 : decode cX8_begins 119 = .ok (.bipush 6, 2) := by decide +kernel
theorem dX8_begins_121 : decode cX8_begins 121 = .ok (.iadd, 1) := by decide +kernel
theorem dX8_begins_122 : decode cX8_begins 122 = .ok (.iaload, 1) := by decide +kernel
theorem dX8_begins_123 : decode cX8_begins 123 = .ok (.ineg, 1) := by decide +kernel
theorem dX8_begins_124 : decode cX8_begins 124 = .ok (.iastore, 1) := by decide +kernel
theorem dX8_begins_125 : decode cX8_begins 125 = .ok (.aload_n 0, 1) := by decide +kernel
theorem dX8_begins_126 : decode cX8_begins 126 = .ok (.getfield 7, 3) := by decide +kernel
theorem dX8_begins_129 : decode cX8_begins 129 = .ok (.iload_n 1, 1) := by decide +kernel
theorem dX8_begins_130 : decode cX8_begins 130 = .ok (.bipush 11, 2) := by decide +kernel
theorem dX8_begins_132 : decode cX8_begins 132 = .ok (.iadd, 1) := by decide +kernel
theorem dX8_begins_133 : decode cX8_begins 133 = .ok (.aload_n 0, 1) := by decide +kernel
theorem dX8_begins_134 : decode cX8_begins 134 = .ok (.getfield 7, 3) := by decide +kernel
theorem dX8_begins_137 : decode cX8_begins 137 = .ok (.iload_n 1, 1) := by decide +kernel
theorem dX8_begins_138 : decode cX8_begins 138 = .ok (.bipush 6, 2) := by decide +kernel
theorem dX8_begins_140 : decode cX8_begins 140 = .ok (.iadd, 1) := by decide +kernel
theorem dX8_begins_141 : decode cX8_begins 141 = .ok (.iconst 1, 1) := by decide +kernel
theorem dX8_begins_142 : decode cX8_begins 142 = .ok (.iadd, 1) := by decide +kernel
theorem dX8_begins_143 : decode cX8_begins 143 = .ok (.iaload, 1) := by decide +kernel
theorem dX8_begins_144 : decode cX8_begins 144 = .ok (.ineg, 1) := by decide +kernel
theorem dX8_begins_145 : decode cX8_begins 145 = .ok (.iastore, 1) := by decide +kernel
theorem dX8_begins_146 : decode cX8_begins 146 = .ok (.return_, 1) := by decide +kernel
theorem dX8_steps_0 : decode cX8_steps 0 = .ok (.aload_n 0, 1) := by decide +kernel
theorem dX8_steps_1 : decode cX8_steps 1 = .ok (.getfield 20, 3) := by decide +kernel
theorem dX8_steps_4 : decode cX8_steps 4 = .ok (.iconst 0, 1) := by decide +kernel
theorem dX8_steps_5 : decode cX8_steps 5 = .ok (.iconst 0, 1) := by decide +kernel
theorem dX8_steps_6 : decode cX8_steps 6 = .ok (.iastore, 1) := by decide +kernel
theorem dX8_steps_7 : decode cX8_steps 7 = .ok (.aload_n 0, 1) := by decide +kernel
theorem dX8_steps_8 : decode cX8_steps 8 = .ok (.getfield 20, 3) := by decide +kernel
theorem dX8_steps_11 : decode cX8_steps 11 = .ok (.iconst 1, 1) := by decide +kernel
theorem dX8_steps_12 : decode cX8_steps 12 = .ok (.iconst 0, 1) := by decide +kernel
theorem dX8_steps_13 : decode cX8_steps 13 = .ok (.iastore, 1) := by decide +kernel
theorem dX8_steps_14 : decode cX8_steps 14 = .ok (.aload_n 0, 1) := by decide +kernel
theorem dX8_steps_15 : decode cX8_steps 15 = .ok (.getfield 20, 3) := by decide +kernel
theorem dX8_steps_18 : decode cX8_steps 18 = .ok (.iconst 2, 1) := by decide +kernel
theorem dX8_steps_19 : decode cX8_steps 19 = .ok (.iconst 0, 1) := by decide +kernel
theorem dX8_steps_20 : decode cX8_steps 20 = .ok (.iastore, 1) := by decide +kernel
theorem dX8_steps_21 : decode cX8_steps 21 = .ok (.aload_n 0, 1) := by decide +kernel
theorem dX8_steps_22 : decode cX8_steps 22 = .ok (.getfield 7, 3) := by decide +kernel
theorem dX8_steps_25 : decode cX8_steps 25 = .ok (.iload_n 1, 1) := by decide +kernel
theorem dX8_steps_26 : decode cX8_steps 26 = .ok (.iconst 5, 1) := by decide +kernel
theorem dX8_steps_27 : decode cX8_steps 27 = .ok (.iadd, 1) := by decide +kernel
theorem dX8_steps_28 : decode cX8_steps 28 = .ok (.iaload, 1) := by decide +kernel
theorem dX8_steps_29 : decode cX8_steps 29 = .ok (.ifCond .ge 17, 3) := by decide +kernel
theorem dX8_steps_32 : decode cX8_steps 32 = .ok (.aload_n 0, 1) := by decide +kernel
theorem dX8_steps_33 : decode cX8_steps 33 = .ok (.getfield 7, 3) := by decide +kernel
theorem dX8_steps_36 : decode cX8_steps 36 = .ok (.iload_n 1, 1) := by decide +kernel
theorem dX8_steps_37 : decode cX8_steps 37 = .ok (.bipush 12, 2) := by decide +kernel
theorem dX8_steps_39 : decode cX8_steps 39 = .ok (.iadd, 1) := by decide +kernel
theorem dX8_steps_40 : decode cX8_steps 40 = .ok (.iaload, 1) := by decide +kernel
theorem dX8_steps_41 : decode cX8_steps 41 = .ok (.ifCond .ne 5, 3) := by decide +kernel
theorem dX8_steps_44 : decode cX8_steps 44 = .ok (.iconst 0, 1) := by decide +kernel
theorem dX8_steps_45 : decode cX8_steps 45 = .ok (.ireturn, 1) := by decide +kernel
theorem dX8_steps_46 : decode cX8_steps 46 = .ok (.aload_n 0, 1) := by decide +kernel
theorem dX8_steps_47 : decode cX8_steps 47 = .ok (.getfield 7, 3) := by decide +kernel
theorem dX8_steps_50 : decode cX8_steps 50 = .ok (.iload_n 1, 1) := by decide +kernel
theorem dX8_steps_51 : decode cX8_steps 51 = .ok (.iconst 5, 1) := by decide +kernel
theorem dX8_steps_52 : decode cX8_steps 52 = .ok (.iadd, 1) := by decide +kernel
theorem dX8_steps_53 : decode cX8_steps 53 = .ok (.iaload, 1) := by decide +kernel
theorem dX8_steps_54 : decode cX8_steps 54 = .ok (.ifCond .ge 8, 3) := by decide +kernel
theorem dX8_steps_57 : decode cX8_steps 57 = .ok (.aload_n 0, 1) := by decide +kernel
theorem dX8_steps_58 : decode cX8_steps 58 = .ok (.iload_n 1, 1) := by decide +kernel
theorem dX8_steps_59 : decode cX8_steps 59 = .ok (.invokevirtual 93, 3) := by decide +kernel
theorem dX8_steps_62 : decode cX8_steps 62 = .ok (.aload_n 0, 1) := by decide +kernel
theorem dX8_steps_63 : decode cX8_steps 63 = .ok (.getfield 7, 3) := by decide +kernel
theorem dX8_steps_66 : decode cX8_steps 66 = .ok (.iload_n 1, 1) := by decide +kernel
theorem dX8_steps_67 : decode cX8_steps 67 = .ok (.iconst 5, 1) := by decide +kernel
theorem dX8_steps_68 : decode cX8_steps 68 = .ok (.iadd, 1) := by decide +kernel
theorem dX8_steps_69 : decode cX8_steps 69 = .ok (.iaload, 1) := by decide +kernel
theorem dX8_steps_70 : decode cX8_steps 70 = .ok (.iconst 2, 1) := by decide +kernel
theorem dX8_steps_71 : decode cX8_steps 71 = .ok (.if_icmp .ge 11, 3) := by decide +kernel
theorem dX8_steps_74 : decode cX8_steps 74 = .ok (.aload_n 0, 1) := by decide +kernel
theorem dX8_steps_75 : decode cX8_steps 75 = .ok (.iload_n 1, 1) := by decide +kernel
theorem dX8_steps_76 : decode cX8_steps 76 = .ok (.invokevirtual 97, 3) := by decide +kernel
theorem dX8_steps_79 : decode cX8_steps 79 = .ok (.goto 28, 3) := by decide +kernel
theorem dX8_steps_82 : decode cX8_steps 82 = .ok (.aload_n 0, 1) := by decide +kernel
theorem dX8_steps_83 : decode cX8_steps 83 = .ok (.getfield 7, 3) := by decide +kernel
theorem dX8_steps_86 : decode cX8_steps 86 = .ok (.iload_n 1, 1) := by decide +kernel
theorem dX8_steps_87 : decode cX8_steps 87 = .ok (.iconst 5, 1) := by decide +kernel
theorem dX8_steps_88 : decode cX8_steps 88 = .ok (.iadd, 1) := by decide +kernel
theorem dX8_steps_89 : decode cX8_steps 89 = .ok (.iaload, 1) := by decide +kernel
theorem dX8_steps_90 : decode cX8_steps 90 = .ok (.iconst 2, 1) := by decide +kernel
theorem dX8_steps_91 : decode cX8_steps 91 = .ok (.if_icmp .ne 11, 3) := by decide +kernel
theorem dX8_steps_94 : decode cX8_steps 94 = .ok (.aload_n 0, 1) := by decide +kernel
theorem dX8_steps_95 : decode cX8_steps 95 = .ok (.iload_n 1, 1) := by decide +kernel
theorem dX8_steps_96 : decode cX8_steps 96 = .ok (.invokevirtual 100, 3) := by decide +kernel
theorem dX8_steps_99 : decode cX8_steps 99 = .ok (.goto 8, 3) := by decide +kernel
theorem dX8_steps_102 : decode cX8_steps 102 = .ok (.aload_n 0, 1) := by decide +kernel
theorem dX8_steps_103 : decode cX8_steps 103 = .ok (.iload_n 1, 1) := by decide +kernel
theorem dX8_steps_104 : decode cX8_steps 104 = .ok (.invokevirtual 103, 3) := by decide +kernel
theorem dX8_steps_107 : decode cX8_steps 107 = .ok (.aload_n 0, 1) := by decide +kernel
theorem dX8_steps_108 : decode cX8_steps 108 = .ok (.getfield 7, 3) := by decide +kernel
theorem dX8_steps_111 : decode cX8_steps 111 = .ok (.iload_n 1, 1) := by decide +kernel
theorem dX8_steps_112 : decode cX8_steps 112 = .ok (.bipush 9, 2) := by decide +kernel
theorem dX8_steps_114 : decode cX8_steps 114 = .ok (.iadd, 1) := by decide +kernel
theorem dX8_steps_115 : decode cX8_steps 115 = .ok (.dup2, 1) := by decide +kernel
theorem dX8_steps_116 : decode cX8_steps 116 = .ok (.iaload, 1) := by decide +kernel
theorem dX8_steps_117 : decode cX8_steps 117 = .ok (.iconst 1, 1) := by decide +kernel
theorem dX8_steps_118 : decode cX8_steps 118 = .ok (.iadd, 1) := by decide +kernel
theorem dX8_steps_119 : decode cX8_steps 119 = .ok (.iastore, 1) := by decide +kernel
theorem dX8_steps_120 : decode cX8_steps 120 = .ok (.aload_n 0, 1) := by decide +kernel
theorem dX8_steps_121 : decode cX8_steps 121 = .ok (.iload_n 1, 1) := by decide +kernel
theorem dX8_steps_122 : decode cX8_steps 122 = .ok (.invokevirtual 80, 3) := by decide +kernel
theorem dX8_steps_125 : decode cX8_steps 125 = .ok (.ifCond .ne 12, 3) := by decide +kernel
theorem dX8_steps_128 : decode cX8_steps 128 = .ok (.aload_n 0, 1) := by decide +kernel
theorem dX8_steps_129 : decode cX8_steps 129 = .ok (.getfield 7, 3) := by decide +kernel
theorem dX8_steps_132 : decode cX8_steps 132 = .ok (.iload_n 1, 1) := by decide +kernel
theorem dX8_steps_133 : decode cX8_steps 133 = .ok (.iconst 5, 1) := by decide +kernel
theorem dX8_steps_134 : decode cX8_steps 134 = .ok (.iadd, 1) := by decide +kernel
theorem dX8_steps_135 : decode cX8_steps 135 = .ok (.iconst (-1), 1) := by decide +kernel
theorem dX8_steps_136 : decode cX8_steps 136 = .ok (.iastore, 1) := by decide +kernel
theorem dX8_steps_137 : decode cX8_steps 137 = .ok (.iconst 1, 1) := by decide +kernel
theorem dX8_steps_138 : decode cX8_steps 138 = .ok (.ireturn, 1) := by decide +kernel
theorem dX8_isAxis_0 : decode cX8_isAxis 0 = .ok (.iload_n 0, 1) := by decide +kernel
theorem dX8_isAxis_1 : decode cX8_isAxis 1 = .ok (.i2l, 1) := by decide +kernel
theorem dX8_isAxis_2 : decode cX8_isAxis 2 = .ok (.lconst 0, 1) := by decide +kernel
theorem dX8_isAxis_3 : decode cX8_isAxis 3 = .ok (.ldc2_w 106, 3) := by decide +kernel
theorem dX8_isAxis_6 : decode cX8_isAxis 6 = .ok (.invokestatic 51, 3) := by decide +kernel
theorem dX8_isAxis_9 : decode cX8_isAxis 9 = .ok (.ireturn, 1) := by decide +kernel
theorem dX8_place_0 : decode cX8_place 0 = .ok (.iload_n 1, 1) := by decide +kernel
theorem dX8_place_1 : decode cX8_place 1 = .ok (.invokestatic 108, 3) := by decide +kernel
theorem dX8_place_4 : decode cX8_place 4 = .ok (.ifCond .eq 12, 3) := by decide +kernel
theorem dX8_place_7 : decode cX8_place 7 = .ok (.aload_n 0, 1) := by decide +kernel
theorem dX8_place_8 : decode cX8_place 8 = .ok (.getfield 7, 3) := by decide +kernel
theorem dX8_place_11 : decode cX8_place 11 = .ok (.iload_n 1, 1) := by decide +kernel
theorem dX8_place_12 : decode cX8_place 12 = .ok (.iaload, 1) := by decide +kernel
theorem dX8_place_13 : decode cX8_place 13 = .ok (.goto 5, 3) := by decide +kernel
theorem dX8_place_16 : decode cX8_place 16 = .ok (.ldc 112, 2) := by decide +kernel
theorem dX8_place_18 : decode cX8_place 18 = .ok (.ireturn, 1) := by decide +kernel
theorem dX8_piece_0 : decode cX8_piece 0 = .ok (.iload_n 1, 1) := by decide +kernel
theorem dX8_piece_1 : decode cX8_piece 1 = .ok (.i2l, 1) := by decide +kernel
theorem dX8_piece_2 : decode cX8_piece 2 = .ok (.ldc2_w 113, 3) := by decide +kernel
theorem dX8_piece_5 : decode cX8_piece 5 = .ok (.aload_n 0, 1) := by decide +kernel
theorem dX8_piece_6 : decode cX8_piece 6 = .ok (.getfield 7, 3) := by decide +kernel
theorem dX8_piece_9 : decode cX8_piece 9 = .ok (.bipush 12, 2) := by decide +kernel
theorem dX8_piece_11 : decode cX8_piece 11 = .ok (.iaload, 1) := by decide +kernel
theorem dX8_piece_12 : decode cX8_piece 12 = .ok (.iconst 1, 1) := by decide +kernel
theorem dX8_piece_13 : decode cX8_piece 13 = .ok (.isub, 1) := by decide +kernel
theorem dX8_piece_14 : decode cX8_piece 14 = .ok (.i2l, 1) := by decide +kernel
theorem dX8_piece_15 : decode cX8_piece 15 = .ok (.invokestatic 51, 3) := by decide +kernel
theorem dX8_piece_18 : decode cX8_piece 18 = .ok (.ifCond .eq 15, 3) := by decide +kernel
theorem dX8_piece_21 : decode cX8_piece 21 = .ok (.iload_n 2, 1) := by decide +kernel
theorem dX8_piece_22 : decode cX8_piece 22 = .ok (.i2l, 1) := by decide +kernel
theorem dX8_piece_23 : decode cX8_piece 23 = .ok (.lconst 0, 1) := by decide +kernel
theorem dX8_piece_24 : decode cX8_piece 24 = .ok (.ldc2_w 49, 3) := by decide +kernel
theorem dX8_piece_27 : decode cX8_piece 27 = .ok (.invokestatic 51, 3) := by decide +kernel
theorem dX8_piece_30 : decode cX8_piece 30 = .ok (.ifCond .ne 6, 3) := by decide +kernel
theorem dX8_piece_33 : decode cX8_piece 33 = .ok (.ldc 112, 2) := by decide +kernel
theorem dX8_piece_35 : decode cX8_piece 35 = .ok (.ireturn, 1) := by decide +kernel
theorem dX8_piece_36 : decode cX8_piece 36 = .ok (.iload_n 1, 1) := by decide +kernel
theorem dX8_piece_37 : decode cX8_piece 37 = .ok (.ifCond .ge 15, 3) := by decide +kernel
theorem dX8_piece_40 : decode cX8_piece 40 = .ok (.aload_n 0, 1) := by decide +kernel
theorem dX8_piece_41 : decode cX8_piece 41 = .ok (.getfield 7, 3) := by decide +kernel
theorem dX8_piece_44 : decode cX8_piece 44 = .ok (.iconst 5, 1) := by decide +kernel
theorem dX8_piece_45 : decode cX8_piece 45 = .ok (.iaload, 1) := by decide +kernel
theorem dX8_piece_46 : decode cX8_piece 46 = .ok (.ifCond .ge 6, 3) := by decide +kernel
theorem dX8_piece_49 : decode cX8_piece 49 = .ok (.ldc 115, 2) := by decide +kernel
theorem dX8_piece_51 : decode cX8_piece 51 = .ok (.ireturn, 1) := by decide +kernel
theorem dX8_piece_52 : decode cX8_piece 52 = .ok (.iload_n 1, 1) := by decide +kernel
theorem dX8_piece_53 : decode cX8_piece 53 = .ok (.ifCond .ge 7, 3) := by decide +kernel
theorem dX8_piece_56 : decode cX8_piece 56 = .ok (.iconst 5, 1) := by decide +kernel
theorem dX8_piece_57 : decode cX8_piece 57 = .ok (.goto 9, 3) := by decide +kernel
theorem dX8_piece_60 : decode cX8_piece 60 = .ok (.bipush 13, 2) := by decide +kernel
theorem dX8_piece_62 : decode cX8_piece 62 = .ok (.iconst 4, 1) := by decide +kernel
theorem dX8_piece_63 : decode cX8_piece 63 = .ok (.iload_n 1, 1) := by decide +kernel
theorem dX8_piece_64 : decode cX8_piece 64 = .ok (.imul, 1) := by decide +kernel
theorem dX8_piece_65 : decode cX8_piece 65 = .ok (.iadd, 1) := by decide +kernel
theorem dX8_piece_66 : decode cX8_piece 66 = .ok (.istore_n 3, 1) := by decide +kernel
theorem dX8_piece_67 : decode cX8_piece 67 = .ok (.iload_n 2, 1) := by decide +kernel
theorem dX8_piece_68 : decode cX8_piece 68 = .ok (.iconst 4, 1) := by decide +kernel
theorem dX8_piece_69 : decode cX8_piece 69 = .ok (.if_icmp .ge 14, 3) := by decide +kernel
theorem dX8_piece_72 : decode cX8_piece 72 = .ok (.aload_n 0, 1) := by decide +kernel
theorem dX8_piece_73 : decode cX8_piece 73 = .ok (.getfield 7, 3) := by decide +kernel
theorem dX8_piece_76 : decode cX8_piece 76 = .ok (.iload_n 3, 1) := by decide +kernel
theorem dX8_piece_77 : decode cX8_piece 77 = .ok (.iload_n 2, 1) := by decide +kernel
theorem dX8_piece_78 : decode cX8_piece 78 = .ok (.iadd, 1) := by decide +kernel
theorem dX8_piece_79 : decode cX8_piece 79 = .ok (.iaload, 1) := by decide +kernel
theorem dX8_piece_80 : decode cX8_piece 80 = .ok (.goto 20, 3) := by decide +kernel
theorem dX8_piece_83 : decode cX8_piece 83 = .ok (.iload_n 1, 1) := by decide +kernel
theorem dX8_piece_84 : decode cX8_piece 84 = .ok (.ifCond .ge 11, 3) := by decide +kernel
theorem dX8_piece_87 : decode cX8_piece 87 = .ok (.aload_n 0, 1) := by decide +kernel
theorem dX8_piece_88 : decode cX8_piece 88 = .ok (.iconst 0, 1) := by decide +kernel
theorem dX8_piece_89 : decode cX8_piece 89 = .ok (.invokevirtual 80, 3) := by decide +kernel
theorem dX8_piece_92 : decode cX8_piece 92 = .ok (.goto 8, 3) := by decide +kernel
theorem dX8_piece_95 : decode cX8_piece 95 = .ok (.aload_n 0, 1) := by decide +kernel
theorem dX8_piece_96 : decode cX8_piece 96 = .ok (.iload_n 3, 1) := by decide +kernel
theorem dX8_piece_97 : decode cX8_piece 97 = .ok (.invokevirtual 77, 3) := by decide +kernel
theorem dX8_piece_100 : decode cX8_piece 100 = .ok (.ireturn, 1) := by decide +kernel
theorem dX8_kinds_0 : decode cX8_kinds 0 = .ok (.iconst 0, 1) := by decide +kernel
theorem dX8_kinds_1 : decode cX8_kinds 1 = .ok (.istore_n 1, 1) := by decide +kernel
theorem dX8_kinds_2 : decode cX8_kinds 2 = .ok (.iconst 0, 1) := by decide +kernel
theorem dX8_kinds_3 : decode cX8_kinds 3 = .ok (.istore_n 2, 1) := by decide +kernel
theorem dX8_kinds_4 : decode cX8_kinds 4 = .ok (.iload_n 2, 1) := by decide +kernel
theorem dX8_kinds_5 : decode cX8_kinds 5 = .ok (.aload_n 0, 1) := by decide +kernel
theorem dX8_kinds_6 : decode cX8_kinds 6 = .ok (.getfield 7, 3) := by decide +kernel
theorem dX8_kinds_9 : decode cX8_kinds 9 = .ok (.bipush 12, 2) := by decide +kernel
theorem dX8_kinds_11 : decode cX8_kinds 11 = .ok (.iaload, 1) := by decide +kernel
theorem dX8_kinds_12 : decode cX8_kinds 12 = .ok (.if_icmp .ge 25, 3) := by decide +kernel
theorem dX8_kinds_15 : decode cX8_kinds 15 = .ok (.iload_n 1, 1) := by decide +kernel
theorem dX8_kinds_16 : decode cX8_kinds 16 = .ok (.iconst 1, 1) := by decide +kernel
theorem dX8_kinds_17 : decode cX8_kinds 17 = .ok (.aload_n 0, 1) := by decide +kernel
theorem dX8_kinds_18 : decode cX8_kinds 18 = .ok (.getfield 7, 3) := by decide +kernel
theorem dX8_kinds_21 : decode cX8_kinds 21 = .ok (.bipush 13, 2) := by decide +kernel
theorem dX8_kinds_23 : decode cX8_kinds 23 = .ok (.iconst 4, 1) := by decide +kernel
theorem dX8_kinds_24 : decode cX8_kinds 24 = .ok (.iload_n 2, 1) := by decide +kernel
theorem dX8_kinds_25 : decode cX8_kinds 25 = .ok (.imul, 1) := by decide +kernel
theorem dX8_kinds_26 : decode cX8_kinds 26 = .ok (.iadd, 1) := by decide +kernel
theorem dX8_kinds_27 : decode cX8_kinds 27 = .ok (.iaload, 1) := by decide +kernel
theorem dX8_kinds_28 : decode cX8_kinds 28 = .ok (.ishl, 1) := by decide +kernel
theorem dX8_kinds_29 : decode cX8_kinds 29 = .ok (.ior, 1) := by decide +kernel
theorem dX8_kinds_30 : decode cX8_kinds 30 = .ok (.istore_n 1, 1) := by decide +kernel
theorem dX8_kinds_31 : decode cX8_kinds 31 = .ok (.iinc 2 1, 3) := by decide +kernel
theorem dX8_kinds_34 : decode cX8_kinds 34 = .ok (.goto (-30), 3) := by decide +kernel
theorem dX8_kinds_37 : decode cX8_kinds 37 = .ok (.iload_n 1, 1) := by decide +kernel
theorem dX8_kinds_38 : decode cX8_kinds 38 = .ok (.ireturn, 1) := by decide +kernel
theorem dX8_count_0 : decode cX8_count 0 = .ok (.iload_n 1, 1) := by decide +kernel
theorem dX8_count_1 : decode cX8_count 1 = .ok (.tableswitch 85 0 5 #[39, 47, 62, 69, 75, 80], 39) := by decide +kernel
theorem dX8_count_40 : decode cX8_count 40 = .ok (.aload_n 0, 1) := by decide +kernel
theorem dX8_count_41 : decode cX8_count 41 = .ok (.getfield 7, 3) := by decide +kernel
theorem dX8_count_44 : decode cX8_count 44 = .ok (.bipush 12, 2) := by decide +kernel
theorem dX8_count_46 : decode cX8_count 46 = .ok (.iaload, 1) := by decide +kernel
theorem dX8_count_47 : decode cX8_count 47 = .ok (.ireturn, 1) := by decide +kernel
theorem dX8_count_48 : decode cX8_count 48 = .ok (.aload_n 0, 1) := by decide +kernel
theorem dX8_count_49 : decode cX8_count 49 = .ok (.getfield 7, 3) := by decide +kernel
theorem dX8_count_52 : decode cX8_count 52 = .ok (.iconst 5, 1) := by decide +kernel
theorem dX8_count_53 : decode cX8_count 53 = .ok (.iaload, 1) := by decide +kernel
theorem dX8_count_54 : decode cX8_count 54 = .ok (.ifCond .ge 7, 3) := by decide +kernel
theorem dX8_count_57 : decode cX8_count 57 = .ok (.iconst 0, 1) := by decide +kernel
theorem dX8_count_58 : decode cX8_count 58 = .ok (.goto 4, 3) := by decide +kernel
theorem dX8_count_61 : decode cX8_count 61 = .ok (.iconst 1, 1) := by decide +kernel
theorem dX8_count_62 : decode cX8_count 62 = .ok (.ireturn, 1) := by decide +kernel
theorem dX8_count_63 : decode cX8_count 63 = .ok (.aload_n 0, 1) := by decide +kernel
theorem dX8_count_64 : decode cX8_count 64 = .ok (.getfield 7, 3) := by decide +kernel
theorem dX8_count_67 : decode cX8_count 67 = .ok (.iconst 3, 1) := by decide +kernel
theorem dX8_count_68 : decode cX8_count 68 = .ok (.iaload, 1) := by decide +kernel
theorem dX8_count_69 : decode cX8_count 69 = .ok (.ireturn, 1) := by decide +kernel
theorem dX8_count_70 : decode cX8_count 70 = .ok (.aload_n 0, 1) := by decide +kernel
theorem dX8_count_71 : decode cX8_count 71 = .ok (.iconst 0, 1) := by decide +kernel
theorem dX8_count_72 : decode cX8_count 72 = .ok (.invokevirtual 116, 3) := by decide +kernel
theorem dX8_count_75 : decode cX8_count 75 = .ok (.ireturn, 1) := by decide +kernel
theorem dX8_count_76 : decode cX8_count 76 = .ok (.aload_n 0, 1) := by decide +kernel
theorem dX8_count_77 : decode cX8_count 77 = .ok (.invokevirtual 119, 3) := by decide +kernel
theorem dX8_count_80 : decode cX8_count 80 = .ok (.ireturn, 1) := by decide +kernel
theorem dX8_count_81 : decode cX8_count 81 = .ok (.aload_n 0, 1) := by decide +kernel
theorem dX8_count_82 : decode cX8_count 82 = .ok (.getfield 42, 3) := by decide +kernel
theorem dX8_count_85 : decode cX8_count 85 = .ok (.ireturn, 1) := by decide +kernel
theorem dX8_count_86 : decode cX8_count 86 = .ok (.ldc 112, 2) := by decide +kernel
theorem dX8_count_88 : decode cX8_count 88 = .ok (.ireturn, 1) := by decide +kernel
theorem dX8_type_0 : decode cX8_type 0 = .ok (.iload_n 1, 1) := by decide +kernel
theorem dX8_type_1 : decode cX8_type 1 = .ok (.i2l, 1) := by decide +kernel
theorem dX8_type_2 : decode cX8_type 2 = .ok (.ldc2_w 123, 3) := by decide +kernel
theorem dX8_type_5 : decode cX8_type 5 = .ok (.ldc2_w 125, 3) := by decide +kernel
theorem dX8_type_8 : decode cX8_type 8 = .ok (.invokestatic 51, 3) := by decide +kernel
theorem dX8_type_11 : decode cX8_type 11 = .ok (.ifCond .ne 6, 3) := by decide +kernel
theorem dX8_type_14 : decode cX8_type 14 = .ok (.ldc 112, 2) := by decide +kernel
theorem dX8_type_16 : decode cX8_type 16 = .ok (.ireturn, 1) := by decide +kernel
theorem dX8_type_17 : decode cX8_type 17 = .ok (.aload_n 0, 1) := by decide +kernel
theorem dX8_type_18 : decode cX8_type 18 = .ok (.getfield 127, 3) := by decide +kernel
theorem dX8_type_21 : decode cX8_type 21 = .ok (.sipush 140, 3) := by decide +kernel
theorem dX8_type_24 : decode cX8_type 24 = .ok (.if_icmp .ne 6, 3) := by decide +kernel
theorem dX8_type_27 : decode cX8_type 27 = .ok (.ldc 130, 2) := by decide +kernel
theorem dX8_type_29 : decode cX8_type 29 = .ok (.ireturn, 1) := by decide +kernel
theorem dX8_type_30 : decode cX8_type 30 = .ok (.aload_n 0, 1) := by decide +kernel
theorem dX8_type_31 : decode cX8_type 31 = .ok (.getfield 17, 3) := by decide +kernel
theorem dX8_type_34 : decode cX8_type 34 = .ok (.aload_n 0, 1) := by decide +kernel
theorem dX8_type_35 : decode cX8_type 35 = .ok (.getfield 127, 3) := by decide +kernel
theorem dX8_type_38 : decode cX8_type 38 = .ok (.iload_n 1, 1) := by decide +kernel
theorem dX8_type_39 : decode cX8_type 39 = .ok (.iastore, 1) := by decide +kernel
theorem dX8_type_40 : decode cX8_type 40 = .ok (.aload_n 0, 1) := by decide +kernel
theorem dX8_type_41 : decode cX8_type 41 = .ok (.dup, 1) := by decide +kernel
theorem dX8_type_42 : decode cX8_type 42 = .ok (.getfield 127, 3) := by decide +kernel
theorem dX8_type_45 : decode cX8_type 45 = .ok (.iconst 1, 1) := by decide +kernel
theorem dX8_type_46 : decode cX8_type 46 = .ok (.iadd, 1) := by decide +kernel
theorem dX8_type_47 : decode cX8_type 47 = .ok (.putfield 127, 3) := by decide +kernel
theorem dX8_type_50 : decode cX8_type 50 = .ok (.aload_n 0, 1) := by decide +kernel
theorem dX8_type_51 : decode cX8_type 51 = .ok (.getfield 127, 3) := by decide +kernel
theorem dX8_type_54 : decode cX8_type 54 = .ok (.ireturn, 1) := by decide +kernel
theorem dX8_here_0 : decode cX8_here 0 = .ok (.aload_n 0, 1) := by decide +kernel
theorem dX8_here_1 : decode cX8_here 1 = .ok (.getfield 131, 3) := by decide +kernel
theorem dX8_here_4 : decode cX8_here 4 = .ok (.aload_n 0, 1) := by decide +kernel
theorem dX8_here_5 : decode cX8_here 5 = .ok (.getfield 127, 3) := by decide +kernel
theorem dX8_here_8 : decode cX8_here 8 = .ok (.if_icmp .ge 30, 3) := by decide +kernel
theorem dX8_here_11 : decode cX8_here 11 = .ok (.aload_n 0, 1) := by decide +kernel
theorem dX8_here_12 : decode cX8_here 12 = .ok (.getfield 17, 3) := by decide +kernel
theorem dX8_here_15 : decode cX8_here 15 = .ok (.aload_n 0, 1) := by decide +kernel
theorem dX8_here_16 : decode cX8_here 16 = .ok (.getfield 131, 3) := by decide +kernel
theorem dX8_here_19 : decode cX8_here 19 = .ok (.iaload, 1) := by decide +kernel
theorem dX8_here_20 : decode cX8_here 20 = .ok (.bipush 32, 2) := by decide +kernel
theorem dX8_here_22 : decode cX8_here 22 = .ok (.if_icmp .ne 16, 3) := by decide +kernel
theorem dX8_here_25 : decode cX8_here 25 = .ok (.aload_n 0, 1) := by decide +kernel
theorem dX8_here_26 : decode cX8_here 26 = .ok (.dup, 1) := by decide +kernel
theorem dX8_here_27 : decode cX8_here 27 = .ok (.getfield 131, 3) := by decide +kernel
theorem dX8_here_30 : decode cX8_here 30 = .ok (.iconst 1, 1) := by decide +kernel
theorem dX8_here_31 : decode cX8_here 31 = .ok (.iadd, 1) := by decide +kernel
theorem dX8_here_32 : decode cX8_here 32 = .ok (.putfield 131, 3) := by decide +kernel
theorem dX8_here_35 : decode cX8_here 35 = .ok (.goto (-35), 3) := by decide +kernel
theorem dX8_here_38 : decode cX8_here 38 = .ok (.aload_n 0, 1) := by decide +kernel
theorem dX8_here_39 : decode cX8_here 39 = .ok (.getfield 131, 3) := by decide +kernel
theorem dX8_here_42 : decode cX8_here 42 = .ok (.aload_n 0, 1) := by decide +kernel
theorem dX8_here_43 : decode cX8_here 43 = .ok (.getfield 127, 3) := by decide +kernel
theorem dX8_here_46 : decode cX8_here 46 = .ok (.if_icmp .ge 15, 3) := by decide +kernel
theorem dX8_here_49 : decode cX8_here 49 = .ok (.aload_n 0, 1) := by decide +kernel
theorem dX8_here_50 : decode cX8_here 50 = .ok (.getfield 17, 3) := by decide +kernel
theorem dX8_here_53 : decode cX8_here 53 = .ok (.aload_n 0, 1) := by decide +kernel
theorem dX8_here_54 : decode cX8_here 54 = .ok (.getfield 131, 3) := by decide +kernel
theorem dX8_here_57 : decode cX8_here 57 = .ok (.iaload, 1) := by decide +kernel
theorem dX8_here_58 : decode cX8_here 58 = .ok (.goto 4, 3) := by decide +kernel
theorem dX8_here_61 : decode cX8_here 61 = .ok (.iconst (-1), 1) := by decide +kernel
theorem dX8_here_62 : decode cX8_here 62 = .ok (.ireturn, 1) := by decide +kernel
theorem dX8_isDigit_0 : decode cX8_isDigit 0 = .ok (.iload_n 0, 1) := by decide +kernel
theorem dX8_isDigit_1 : decode cX8_isDigit 1 = .ok (.i2l, 1) := by decide +kernel
theorem dX8_isDigit_2 : decode cX8_isDigit 2 = .ok (.ldc2_w 134, 3) := by decide +kernel
theorem dX8_isDigit_5 : decode cX8_isDigit 5 = .ok (.ldc2_w 136, 3) := by decide +kernel
theorem dX8_isDigit_8 : decode cX8_isDigit 8 = .ok (.invokestatic 51, 3) := by decide +kernel
theorem dX8_isDigit_11 : decode cX8_isDigit 11 = .ok (.ireturn, 1) := by decide +kernel
theorem dX8_takesNumber_0 : decode cX8_takesNumber 0 = .ok (.aload_n 0, 1) := by decide +kernel
theorem dX8_takesNumber_1 : decode cX8_takesNumber 1 = .ok (.invokevirtual 138, 3) := by decide +kernel
theorem dX8_takesNumber_4 : decode cX8_takesNumber 4 = .ok (.bipush 45, 2) := by decide +kernel
theorem dX8_takesNumber_6 : decode cX8_takesNumber 6 = .ok (.if_icmp .ne 7, 3) := by decide +kernel
theorem dX8_takesNumber_9 : decode cX8_takesNumber 9 = .ok (.iconst 1, 1) := by decide +kernel
theorem dX8_takesNumber_10 : decode cX8_takesNumber 10 = .ok (.goto 4, 3) := by decide +kernel
theorem dX8_takesNumber_13 : decode cX8_takesNumber 13 = .ok (.iconst 0, 1) := by decide +kernel
theorem dX8_takesNumber_14 : decode cX8_takesNumber 14 = .ok (.istore_n 1, 1) := by decide +kernel
theorem dX8_takesNumber_15 : decode cX8_takesNumber 15 = .ok (.iload_n 1, 1) := by decide +kernel
theorem dX8_takesNumber_16 : decode cX8_takesNumber 16 = .ok (.ifCond .eq 13, 3) := by decide +kernel
theorem dX8_takesNumber_19 : decode cX8_takesNumber 19 = .ok (.aload_n 0, 1) := by decide +kernel
theorem dX8_takesNumber_20 : decode cX8_takesNumber 20 = .ok (.dup, 1) := by decide +kernel
theorem dX8_takesNumber_21 : decode cX8_takesNumber 21 = .ok (.getfield 131, 3) := by decide +kernel
theorem dX8_takesNumber_24 : decode cX8_takesNumber 24 = .ok (.iconst 1, 1) := by decide +kernel
theorem dX8_takesNumber_25 : decode cX8_takesNumber 25 = .ok (.iadd, 1) := by decide +kernel
theorem dX8_takesNumber_26 : decode cX8_takesNumber 26 = .ok (.putfield 131, 3) := by decide +kernel
theorem dX8_takesNumber_29 : decode cX8_takesNumber 29 = .ok (.aload_n 0, 1) := by decide +kernel
theorem dX8_takesNumber_30 : decode cX8_takesNumber 30 = .ok (.invokevirtual 138, 3) := by decide +kernel
theorem dX8_takesNumber_33 : decode cX8_takesNumber 33 = .ok (.invokestatic 141, 3) := by decide +kernel
theorem dX8_takesNumber_36 : decode cX8_takesNumber 36 = .ok (.ifCond .ne 5, 3) := by decide +kernel
theorem dX8_takesNumber_39 : decode cX8_takesNumber 39 = .ok (.iconst 0, 1) := by decide +kernel
theorem dX8_takesNumber_40 : decode cX8_takesNumber 40 = .ok (.ireturn, 1) := by decide +kernel
theorem dX8_takesNumber_41 : decode cX8_takesNumber 41 = .ok (.iconst 0, 1) := by decide +kernel
theorem dX8_takesNumber_42 : decode cX8_takesNumber 42 = .ok (.istore_n 2, 1) := by decide +kernel
theorem dX8_takesNumber_43 : decode cX8_takesNumber 43 = .ok (.aload_n 0, 1) := by decide +kernel
theorem dX8_takesNumber_44 : decode cX8_takesNumber 44 = .ok (.iconst 0, 1) := by decide +kernel
theorem dX8_takesNumber_45 : decode cX8_takesNumber 45 = .ok (.putfield 144, 3) := by decide +kernel
theorem dX8_takesNumber_48 : decode cX8_takesNumber 48 = .ok (.aload_n 0, 1) := by decide +kernel
theorem dX8_takesNumber_49 : decode cX8_takesNumber 49 = .ok (.getfield 131, 3) := by decide +kernel
theorem dX8_takesNumber_52 : decode cX8_takesNumber 52 = .ok (.aload_n 0, 1) := by decide +kernel
theorem dX8_takesNumber_53 : decode cX8_takesNumber 53 = .ok (.getfield 127, 3) := by decide +kernel
theorem dX8_takesNumber_56 : decode cX8_takesNumber 56 = .ok (.if_icmp .ge 65, 3) := by decide +kernel
theorem dX8_takesNumber_59 : decode cX8_takesNumber 59 = .ok (.aload_n 0, 1) := by decide +kernel
theorem dX8_takesNumber_60 : decode cX8_takesNumber 60 = .ok (.getfield 17, 3) := by decide +kernel
theorem dX8_takesNumber_63 : decode cX8_takesNumber 63 = .ok (.aload_n 0, 1) := by decide +kernel
theorem dX8_takesNumber_64 : decode cX8_takesNumber 64 = .ok (.getfield 131, 3) := by decide +kernel
theorem dX8_takesNumber_67 : decode cX8_takesNumber 67 = .ok (.iaload, 1) := by decide +kernel
theorem dX8_takesNumber_68 : decode cX8_takesNumber 68 = .ok (.invokestatic 141, 3) := by decide +kernel
theorem dX8_takesNumber_71 : decode cX8_takesNumber 71 = .ok (.ifCond .eq 50, 3) := by decide +kernel
theorem dX8_takesNumber_74 : decode cX8_takesNumber 74 = .ok (.iload_n 2, 1) := by decide +kernel
theorem dX8_takesNumber_75 : decode cX8_takesNumber 75 = .ok (.iconst 2, 1) := by decide +kernel
theorem dX8_takesNumber_76 : decode cX8_takesNumber 76 = .ok (.if_icmp .ne 5, 3) := by decide +kernel
theorem dX8_takesNumber_79 : decode cX8_takesNumber 79 = .ok (.iconst 0, 1) := by decide +kernel
theorem dX8_takesNumber_80 : decode cX8_takesNumber 80 = .ok (.ireturn, 1) := by decide +kernel
theorem dX8_takesNumber_81 : decode cX8_takesNumber 81 = .ok (.aload_n 0, 1) := by decide +kernel
theorem dX8_takesNumber_82 : decode cX8_takesNumber 82 = .ok (.bipush 10, 2) := by decide +kernel
theorem dX8_takesNumber_84 : decode cX8_takesNumber 84 = .ok (.aload_n 0, 1) := by decide +kernel
