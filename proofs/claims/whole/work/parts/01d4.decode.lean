theorem dX8_low_23 : decode cX8_low 23 = .ok (.iload_n 0, 1) := by decide +kernel
theorem dX8_low_24 : decode cX8_low 24 = .ok (.iconst 2, 1) := by decide +kernel
theorem dX8_low_25 : decode cX8_low 25 = .ok (.if_icmp .ne 9, 3) := by decide +kernel
theorem dX8_low_28 : decode cX8_low 28 = .ok (.lload_n 1, 1) := by decide +kernel
theorem dX8_low_29 : decode cX8_low 29 = .ok (.l2i, 1) := by decide +kernel
theorem dX8_low_30 : decode cX8_low 30 = .ok (.i2l, 1) := by decide +kernel
theorem dX8_low_31 : decode cX8_low 31 = .ok (.goto 4, 3) := by decide +kernel
theorem dX8_low_34 : decode cX8_low 34 = .ok (.lload_n 1, 1) := by decide +kernel
theorem dX8_low_35 : decode cX8_low 35 = .ok (.lreturn, 1) := by decide +kernel
theorem dX8_against_0 : decode cX8_against 0 = .ok (.aload_n 0, 1) := by decide +kernel
theorem dX8_against_1 : decode cX8_against 1 = .ok (.getfield 29, 3) := by decide +kernel
theorem dX8_against_4 : decode cX8_against 4 = .ok (.iload_n 1, 1) := by decide +kernel
theorem dX8_against_5 : decode cX8_against 5 = .ok (.iaload, 1) := by decide +kernel
theorem dX8_against_6 : decode cX8_against 6 = .ok (.ifCond .ge 8, 3) := by decide +kernel
theorem dX8_against_9 : decode cX8_against 9 = .ok (.ldc 200, 2) := by decide +kernel
theorem dX8_against_11 : decode cX8_against 11 = .ok (.goto 50, 3) := by decide +kernel
theorem dX8_against_14 : decode cX8_against 14 = .ok (.aload_n 0, 1) := by decide +kernel
theorem dX8_against_15 : decode cX8_against 15 = .ok (.getfield 32, 3) := by decide +kernel
theorem dX8_against_18 : decode cX8_against 18 = .ok (.iload_n 1, 1) := by decide +kernel
theorem dX8_against_19 : decode cX8_against 19 = .ok (.iaload, 1) := by decide +kernel
theorem dX8_against_20 : decode cX8_against 20 = .ok (.iload_n 2, 1) := by decide +kernel
theorem dX8_against_21 : decode cX8_against 21 = .ok (.if_icmp .eq 8, 3) := by decide +kernel
theorem dX8_against_24 : decode cX8_against 24 = .ok (.ldc 201, 2) := by decide +kernel
theorem dX8_against_26 : decode cX8_against 26 = .ok (.goto 35, 3) := by decide +kernel
theorem dX8_against_29 : decode cX8_against 29 = .ok (.iload_n 3, 1) := by decide +kernel
theorem dX8_against_30 : decode cX8_against 30 = .ok (.ifCond .lt 25, 3) := by decide +kernel
theorem dX8_against_33 : decode cX8_against 33 = .ok (.iload 4, 2) := by decide +kernel
theorem dX8_against_35 : decode cX8_against 35 = .ok (.ifCond .lt 20, 3) := by decide +kernel
theorem dX8_against_38 : decode cX8_against 38 = .ok (.iload_n 3, 1) := by decide +kernel
theorem dX8_against_39 : decode cX8_against 39 = .ok (.i2l, 1) := by decide +kernel
theorem dX8_against_40 : decode cX8_against 40 = .ok (.iload 4, 2) := by decide +kernel
theorem dX8_against_42 : decode cX8_against 42 = .ok (.i2l, 1) := by decide +kernel
theorem dX8_against_43 : decode cX8_against 43 = .ok (.ladd, 1) := by decide +kernel
theorem dX8_against_44 : decode cX8_against 44 = .ok (.aload_n 0, 1) := by decide +kernel
theorem dX8_against_45 : decode cX8_against 45 = .ok (.getfield 29, 3) := by decide +kernel
theorem dX8_against_48 : decode cX8_against 48 = .ok (.iload_n 1, 1) := by decide +kernel
theorem dX8_against_49 : decode cX8_against 49 = .ok (.iaload, 1) := by decide +kernel
theorem dX8_against_50 : decode cX8_against 50 = .ok (.i2l, 1) := by decide +kernel
theorem dX8_against_51 : decode cX8_against 51 = .ok (.lcmp, 1) := by decide +kernel
theorem dX8_against_52 : decode cX8_against 52 = .ok (.ifCond .le 8, 3) := by decide +kernel
theorem dX8_against_55 : decode cX8_against 55 = .ok (.ldc 202, 2) := by decide +kernel
theorem dX8_against_57 : decode cX8_against 57 = .ok (.goto 4, 3) := by decide +kernel
theorem dX8_against_60 : decode cX8_against 60 = .ok (.iconst 0, 1) := by decide +kernel
theorem dX8_against_61 : decode cX8_against 61 = .ok (.ireturn, 1) := by decide +kernel
theorem dX8_cameBy_0 : decode cX8_cameBy 0 = .ok (.aload_n 0, 1) := by decide +kernel
theorem dX8_cameBy_1 : decode cX8_cameBy 1 = .ok (.iconst 0, 1) := by decide +kernel
theorem dX8_cameBy_2 : decode cX8_cameBy 2 = .ok (.bipush 61, 2) := by decide +kernel
theorem dX8_cameBy_4 : decode cX8_cameBy 4 = .ok (.invokevirtual 45, 3) := by decide +kernel
theorem dX8_cameBy_7 : decode cX8_cameBy 7 = .ok (.aload_n 0, 1) := by decide +kernel
theorem dX8_cameBy_8 : decode cX8_cameBy 8 = .ok (.getfield 7, 3) := by decide +kernel
theorem dX8_cameBy_11 : decode cX8_cameBy 11 = .ok (.bipush 74, 2) := by decide +kernel
theorem dX8_cameBy_13 : decode cX8_cameBy 13 = .ok (.iload 4, 2) := by decide +kernel
theorem dX8_cameBy_15 : decode cX8_cameBy 15 = .ok (.iastore, 1) := by decide +kernel
theorem dX8_cameBy_16 : decode cX8_cameBy 16 = .ok (.iload 4, 2) := by decide +kernel
theorem dX8_cameBy_18 : decode cX8_cameBy 18 = .ok (.aload_n 0, 1) := by decide +kernel
theorem dX8_cameBy_19 : decode cX8_cameBy 19 = .ok (.getfield 7, 3) := by decide +kernel
theorem dX8_cameBy_22 : decode cX8_cameBy 22 = .ok (.bipush 14, 2) := by decide +kernel
theorem dX8_cameBy_24 : decode cX8_cameBy 24 = .ok (.iaload, 1) := by decide +kernel
theorem dX8_cameBy_25 : decode cX8_cameBy 25 = .ok (.aload_n 0, 1) := by decide +kernel
theorem dX8_cameBy_26 : decode cX8_cameBy 26 = .ok (.getfield 7, 3) := by decide +kernel
theorem dX8_cameBy_29 : decode cX8_cameBy 29 = .ok (.bipush 15, 2) := by decide +kernel
theorem dX8_cameBy_31 : decode cX8_cameBy 31 = .ok (.iaload, 1) := by decide +kernel
theorem dX8_cameBy_32 : decode cX8_cameBy 32 = .ok (.aload_n 0, 1) := by decide +kernel
theorem dX8_cameBy_33 : decode cX8_cameBy 33 = .ok (.getfield 7, 3) := by decide +kernel
theorem dX8_cameBy_36 : decode cX8_cameBy 36 = .ok (.bipush 16, 2) := by decide +kernel
theorem dX8_cameBy_38 : decode cX8_cameBy 38 = .ok (.iaload, 1) := by decide +kernel
theorem dX8_cameBy_39 : decode cX8_cameBy 39 = .ok (.invokestatic 154, 3) := by decide +kernel
theorem dX8_cameBy_42 : decode cX8_cameBy 42 = .ok (.istore 5, 2) := by decide +kernel
theorem dX8_cameBy_44 : decode cX8_cameBy 44 = .ok (.iconst 0, 1) := by decide +kernel
theorem dX8_cameBy_45 : decode cX8_cameBy 45 = .ok (.istore 6, 2) := by decide +kernel
theorem dX8_cameBy_47 : decode cX8_cameBy 47 = .ok (.iload 6, 2) := by decide +kernel
theorem dX8_cameBy_49 : decode cX8_cameBy 49 = .ok (.iload_n 3, 1) := by decide +kernel
theorem dX8_cameBy_50 : decode cX8_cameBy 50 = .ok (.if_icmp .ge 88, 3) := by decide +kernel
theorem dX8_cameBy_53 : decode cX8_cameBy 53 = .ok (.iload 5, 2) := by decide +kernel
theorem dX8_cameBy_55 : decode cX8_cameBy 55 = .ok (.ifCond .eq 83, 3) := by decide +kernel
theorem dX8_cameBy_58 : decode cX8_cameBy 58 = .ok (.aload_n 0, 1) := by decide +kernel
theorem dX8_cameBy_59 : decode cX8_cameBy 59 = .ok (.bipush 61, 2) := by decide +kernel
theorem dX8_cameBy_61 : decode cX8_cameBy 61 = .ok (.invokevirtual 175, 3) := by decide +kernel
theorem dX8_cameBy_64 : decode cX8_cameBy 64 = .ok (.ifCond .eq 65, 3) := by decide +kernel
theorem dX8_cameBy_67 : decode cX8_cameBy 67 = .ok (.aload_n 0, 1) := by decide +kernel
theorem dX8_cameBy_68 : decode cX8_cameBy 68 = .ok (.getfield 35, 3) := by decide +kernel
theorem dX8_cameBy_71 : decode cX8_cameBy 71 = .ok (.bipush 24, 2) := by decide +kernel
theorem dX8_cameBy_73 : decode cX8_cameBy 73 = .ok (.iload_n 1, 1) := by decide +kernel
theorem dX8_cameBy_74 : decode cX8_cameBy 74 = .ok (.imul, 1) := by decide +kernel
theorem dX8_cameBy_75 : decode cX8_cameBy 75 = .ok (.iload_n 2, 1) := by decide +kernel
theorem dX8_cameBy_76 : decode cX8_cameBy 76 = .ok (.iadd, 1) := by decide +kernel
theorem dX8_cameBy_77 : decode cX8_cameBy 77 = .ok (.iconst 2, 1) := by decide +kernel
theorem dX8_cameBy_78 : decode cX8_cameBy 78 = .ok (.iload 6, 2) := by decide +kernel
theorem dX8_cameBy_80 : decode cX8_cameBy 80 = .ok (.imul, 1) := by decide +kernel
theorem dX8_cameBy_81 : decode cX8_cameBy 81 = .ok (.iadd, 1) := by decide +kernel
theorem dX8_cameBy_82 : decode cX8_cameBy 82 = .ok (.laload, 1) := by decide +kernel
theorem dX8_cameBy_83 : decode cX8_cameBy 83 = .ok (.aload_n 0, 1) := by decide +kernel
theorem dX8_cameBy_84 : decode cX8_cameBy 84 = .ok (.getfield 7, 3) := by decide +kernel
theorem dX8_cameBy_87 : decode cX8_cameBy 87 = .ok (.bipush 61, 2) := by decide +kernel
theorem dX8_cameBy_89 : decode cX8_cameBy 89 = .ok (.iaload, 1) := by decide +kernel
theorem dX8_cameBy_90 : decode cX8_cameBy 90 = .ok (.i2l, 1) := by decide +kernel
theorem dX8_cameBy_91 : decode cX8_cameBy 91 = .ok (.lcmp, 1) := by decide +kernel
theorem dX8_cameBy_92 : decode cX8_cameBy 92 = .ok (.ifCond .ne 37, 3) := by decide +kernel
theorem dX8_cameBy_95 : decode cX8_cameBy 95 = .ok (.aload_n 0, 1) := by decide +kernel
theorem dX8_cameBy_96 : decode cX8_cameBy 96 = .ok (.getfield 35, 3) := by decide +kernel
theorem dX8_cameBy_99 : decode cX8_cameBy 99 = .ok (.bipush 24, 2) := by decide +kernel
theorem dX8_cameBy_101 : decode cX8_cameBy 101 = .ok (.iload_n 1, 1) := by decide +kernel
theorem dX8_cameBy_102 : decode cX8_cameBy 102 = .ok (.imul, 1) := by decide +kernel
theorem dX8_cameBy_103 : decode cX8_cameBy 103 = .ok (.iload_n 2, 1) := by decide +kernel
theorem dX8_cameBy_104 : decode cX8_cameBy 104 = .ok (.iadd, 1) := by decide +kernel
theorem dX8_cameBy_105 : decode cX8_cameBy 105 = .ok (.iconst 2, 1) := by decide +kernel
theorem dX8_cameBy_106 : decode cX8_cameBy 106 = .ok (.iload 6, 2) := by decide +kernel
theorem dX8_cameBy_108 : decode cX8_cameBy 108 = .ok (.imul, 1) := by decide +kernel
theorem dX8_cameBy_109 : decode cX8_cameBy 109 = .ok (.iadd, 1) := by decide +kernel
theorem dX8_cameBy_110 : decode cX8_cameBy 110 = .ok (.iconst 1, 1) := by decide +kernel
theorem dX8_cameBy_111 : decode cX8_cameBy 111 = .ok (.iadd, 1) := by decide +kernel
theorem dX8_cameBy_112 : decode cX8_cameBy 112 = .ok (.laload, 1) := by decide +kernel
theorem dX8_cameBy_113 : decode cX8_cameBy 113 = .ok (.aload_n 0, 1) := by decide +kernel
theorem dX8_cameBy_114 : decode cX8_cameBy 114 = .ok (.getfield 7, 3) := by decide +kernel
theorem dX8_cameBy_117 : decode cX8_cameBy 117 = .ok (.bipush 62, 2) := by decide +kernel
theorem dX8_cameBy_119 : decode cX8_cameBy 119 = .ok (.iaload, 1) := by decide +kernel
theorem dX8_cameBy_120 : decode cX8_cameBy 120 = .ok (.i2l, 1) := by decide +kernel
theorem dX8_cameBy_121 : decode cX8_cameBy 121 = .ok (.lcmp, 1) := by decide +kernel
theorem dX8_cameBy_122 : decode cX8_cameBy 122 = .ok (.ifCond .ne 7, 3) := by decide +kernel
theorem dX8_cameBy_125 : decode cX8_cameBy 125 = .ok (.iconst 1, 1) := by decide +kernel
theorem dX8_cameBy_126 : decode cX8_cameBy 126 = .ok (.goto 4, 3) := by decide +kernel
theorem dX8_cameBy_129 : decode cX8_cameBy 129 = .ok (.iconst 0, 1) := by decide +kernel
theorem dX8_cameBy_130 : decode cX8_cameBy 130 = .ok (.istore 5, 2) := by decide +kernel
theorem dX8_cameBy_132 : decode cX8_cameBy 132 = .ok (.iinc 6 1, 3) := by decide +kernel
theorem dX8_cameBy_135 : decode cX8_cameBy 135 = .ok (.goto (-88), 3) := by decide +kernel
theorem dX8_cameBy_138 : decode cX8_cameBy 138 = .ok (.iload 5, 2) := by decide +kernel
theorem dX8_cameBy_140 : decode cX8_cameBy 140 = .ok (.ireturn, 1) := by decide +kernel
theorem dX8_came_0 : decode cX8_came 0 = .ok (.iload_n 1, 1) := by decide +kernel
theorem dX8_came_1 : decode cX8_came 1 = .ok (.invokestatic 203, 3) := by decide +kernel
theorem dX8_came_4 : decode cX8_came 4 = .ok (.ifCond .eq 23, 3) := by decide +kernel
theorem dX8_came_7 : decode cX8_came 7 = .ok (.iload_n 2, 1) := by decide +kernel
theorem dX8_came_8 : decode cX8_came 8 = .ok (.invokestatic 206, 3) := by decide +kernel
theorem dX8_came_11 : decode cX8_came 11 = .ok (.ifCond .eq 16, 3) := by decide +kernel
theorem dX8_came_14 : decode cX8_came 14 = .ok (.iload 4, 2) := by decide +kernel
theorem dX8_came_16 : decode cX8_came 16 = .ok (.i2l, 1) := by decide +kernel
theorem dX8_came_17 : decode cX8_came 17 = .ok (.lconst 1, 1) := by decide +kernel
theorem dX8_came_18 : decode cX8_came 18 = .ok (.ldc2_w 196, 3) := by decide +kernel
theorem dX8_came_21 : decode cX8_came 21 = .ok (.invokestatic 51, 3) := by decide +kernel
theorem dX8_came_24 : decode cX8_came 24 = .ok (.ifCond .ne 6, 3) := by decide +kernel
theorem dX8_came_27 : decode cX8_came 27 = .ok (.ldc 112, 2) := by decide +kernel
theorem dX8_came_29 : decode cX8_came 29 = .ok (.ireturn, 1) := by decide +kernel
theorem dX8_came_30 : decode cX8_came 30 = .ok (.aload_n 0, 1) := by decide +kernel
theorem dX8_came_31 : decode cX8_came 31 = .ok (.iload_n 1, 1) := by decide +kernel
theorem dX8_came_32 : decode cX8_came 32 = .ok (.iload_n 2, 1) := by decide +kernel
theorem dX8_came_33 : decode cX8_came 33 = .ok (.iload_n 3, 1) := by decide +kernel
theorem dX8_came_34 : decode cX8_came 34 = .ok (.iconst 2, 1) := by decide +kernel
theorem dX8_came_35 : decode cX8_came 35 = .ok (.iload 4, 2) := by decide +kernel
theorem dX8_came_37 : decode cX8_came 37 = .ok (.imul, 1) := by decide +kernel
theorem dX8_came_38 : decode cX8_came 38 = .ok (.invokevirtual 209, 3) := by decide +kernel
theorem dX8_came_41 : decode cX8_came 41 = .ok (.istore 5, 2) := by decide +kernel
theorem dX8_came_43 : decode cX8_came 43 = .ok (.iload 5, 2) := by decide +kernel
theorem dX8_came_45 : decode cX8_came 45 = .ok (.ifCond .eq 6, 3) := by decide +kernel
theorem dX8_came_48 : decode cX8_came 48 = .ok (.iload 5, 2) := by decide +kernel
theorem dX8_came_50 : decode cX8_came 50 = .ok (.ireturn, 1) := by decide +kernel
theorem dX8_came_51 : decode cX8_came 51 = .ok (.aload_n 0, 1) := by decide +kernel
theorem dX8_came_52 : decode cX8_came 52 = .ok (.getfield 7, 3) := by decide +kernel
theorem dX8_came_55 : decode cX8_came 55 = .ok (.iconst 5, 1) := by decide +kernel
theorem dX8_came_56 : decode cX8_came 56 = .ok (.iaload, 1) := by decide +kernel
theorem dX8_came_57 : decode cX8_came 57 = .ok (.ifCond .ge 13, 3) := by decide +kernel
theorem dX8_came_60 : decode cX8_came 60 = .ok (.aload_n 0, 1) := by decide +kernel
theorem dX8_came_61 : decode cX8_came 61 = .ok (.getfield 7, 3) := by decide +kernel
theorem dX8_came_64 : decode cX8_came 64 = .ok (.bipush 12, 2) := by decide +kernel
theorem dX8_came_66 : decode cX8_came 66 = .ok (.iaload, 1) := by decide +kernel
theorem dX8_came_67 : decode cX8_came 67 = .ok (.ifCond .ne 6, 3) := by decide +kernel
theorem dX8_came_70 : decode cX8_came 70 = .ok (.ldc 172, 2) := by decide +kernel
theorem dX8_came_72 : decode cX8_came 72 = .ok (.ireturn, 1) := by decide +kernel
theorem dX8_came_73 : decode cX8_came 73 = .ok (.iconst 0, 1) := by decide +kernel
theorem dX8_came_74 : decode cX8_came 74 = .ok (.istore 6, 2) := by decide +kernel
theorem dX8_came_76 : decode cX8_came 76 = .ok (.iconst 0, 1) := by decide +kernel
theorem dX8_came_77 : decode cX8_came 77 = .ok (.istore 7, 2) := by decide +kernel
theorem dX8_came_79 : decode cX8_came 79 = .ok (.iload 7, 2) := by decide +kernel
theorem dX8_came_81 : decode cX8_came 81 = .ok (.iconst 5, 1) := by decide +kernel
theorem dX8_came_82 : decode cX8_came 82 = .ok (.if_icmp .ge 35, 3) := by decide +kernel
theorem dX8_came_85 : decode cX8_came 85 = .ok (.iload 6, 2) := by decide +kernel
theorem dX8_came_87 : decode cX8_came 87 = .ok (.aload_n 0, 1) := by decide +kernel
theorem dX8_came_88 : decode cX8_came 88 = .ok (.iload_n 1, 1) := by decide +kernel
theorem dX8_came_89 : decode cX8_came 89 = .ok (.iload_n 3, 1) := by decide +kernel
theorem dX8_came_90 : decode cX8_came 90 = .ok (.iload 4, 2) := by decide +kernel
theorem dX8_came_92 : decode cX8_came 92 = .ok (.iload 7, 2) := by decide +kernel
theorem dX8_came_94 : decode cX8_came 94 = .ok (.invokevirtual 212, 3) := by decide +kernel
theorem dX8_came_97 : decode cX8_came 97 = .ok (.ifCond .eq 10, 3) := by decide +kernel
theorem dX8_came_100 : decode cX8_came 100 = .ok (.iconst 1, 1) := by decide +kernel
theorem dX8_came_101 : decode cX8_came 101 = .ok (.iload 7, 2) := by decide +kernel
theorem dX8_came_103 : decode cX8_came 103 = .ok (.ishl, 1) := by decide +kernel
theorem dX8_came_104 : decode cX8_came 104 = .ok (.goto 4, 3) := by decide +kernel
theorem dX8_came_107 : decode cX8_came 107 = .ok (.iconst 0, 1) := by decide +kernel
theorem dX8_came_108 : decode cX8_came 108 = .ok (.ior, 1) := by decide +kernel
theorem dX8_came_109 : decode cX8_came 109 = .ok (.istore 6, 2) := by decide +kernel
theorem dX8_came_111 : decode cX8_came 111 = .ok (.iinc 7 1, 3) := by decide +kernel
theorem dX8_came_114 : decode cX8_came 114 = .ok (.goto (-35), 3) := by decide +kernel
theorem dX8_came_117 : decode cX8_came 117 = .ok (.iload 6, 2) := by decide +kernel
theorem dX8_came_119 : decode cX8_came 119 = .ok (.ireturn, 1) := by decide +kernel
theorem dX8_film_0 : decode cX8_film 0 = .ok (.iload_n 1, 1) := by decide +kernel
theorem dX8_film_1 : decode cX8_film 1 = .ok (.i2l, 1) := by decide +kernel
theorem dX8_film_2 : decode cX8_film 2 = .ok (.lconst 1, 1) := by decide +kernel
theorem dX8_film_3 : decode cX8_film 3 = .ok (.ldc2_w 215, 3) := by decide +kernel
theorem dX8_film_6 : decode cX8_film 6 = .ok (.invokestatic 51, 3) := by decide +kernel
theorem dX8_film_9 : decode cX8_film 9 = .ok (.ifCond .eq 17, 3) := by decide +kernel
theorem dX8_film_12 : decode cX8_film 12 = .ok (.iload_n 2, 1) := by decide +kernel
theorem dX8_film_13 : decode cX8_film 13 = .ok (.invokestatic 203, 3) := by decide +kernel
theorem dX8_film_16 : decode cX8_film 16 = .ok (.ifCond .eq 10, 3) := by decide +kernel
theorem dX8_film_19 : decode cX8_film 19 = .ok (.iload_n 3, 1) := by decide +kernel
theorem dX8_film_20 : decode cX8_film 20 = .ok (.invokestatic 206, 3) := by decide +kernel
theorem dX8_film_23 : decode cX8_film 23 = .ok (.ifCond .ne 6, 3) := by decide +kernel
theorem dX8_film_26 : decode cX8_film 26 = .ok (.ldc 112, 2) := by decide +kernel
theorem dX8_film_28 : decode cX8_film 28 = .ok (.ireturn, 1) := by decide +kernel
theorem dX8_film_29 : decode cX8_film 29 = .ok (.aload_n 0, 1) := by decide +kernel
theorem dX8_film_30 : decode cX8_film 30 = .ok (.iload_n 2, 1) := by decide +kernel
theorem dX8_film_31 : decode cX8_film 31 = .ok (.iload_n 3, 1) := by decide +kernel
theorem dX8_film_32 : decode cX8_film 32 = .ok (.iload 4, 2) := by decide +kernel
theorem dX8_film_34 : decode cX8_film 34 = .ok (.iconst 2, 1) := by decide +kernel
theorem dX8_film_35 : decode cX8_film 35 = .ok (.iload_n 1, 1) := by decide +kernel
theorem dX8_film_36 : decode cX8_film 36 = .ok (.imul, 1) := by decide +kernel
theorem dX8_film_37 : decode cX8_film 37 = .ok (.invokevirtual 209, 3) := by decide +kernel
theorem dX8_film_40 : decode cX8_film 40 = .ok (.istore 5, 2) := by decide +kernel
theorem dX8_film_42 : decode cX8_film 42 = .ok (.iload 5, 2) := by decide +kernel
theorem dX8_film_44 : decode cX8_film 44 = .ok (.ifCond .eq 6, 3) := by decide +kernel
theorem dX8_film_47 : decode cX8_film 47 = .ok (.iload 5, 2) := by decide +kernel
theorem dX8_film_49 : decode cX8_film 49 = .ok (.ireturn, 1) := by decide +kernel
theorem dX8_film_50 : decode cX8_film 50 = .ok (.aload_n 0, 1) := by decide +kernel
theorem dX8_film_51 : decode cX8_film 51 = .ok (.iconst 0, 1) := by decide +kernel
theorem dX8_film_52 : decode cX8_film 52 = .ok (.bipush 61, 2) := by decide +kernel
theorem dX8_film_54 : decode cX8_film 54 = .ok (.invokevirtual 45, 3) := by decide +kernel
theorem dX8_film_57 : decode cX8_film 57 = .ok (.iconst 0, 1) := by decide +kernel
theorem dX8_film_58 : decode cX8_film 58 = .ok (.istore 6, 2) := by decide +kernel
theorem dX8_film_60 : decode cX8_film 60 = .ok (.iload 6, 2) := by decide +kernel
theorem dX8_film_62 : decode cX8_film 62 = .ok (.iload_n 1, 1) := by decide +kernel
theorem dX8_film_63 : decode cX8_film 63 = .ok (.if_icmp .ge 98, 3) := by decide +kernel
theorem dX8_film_66 : decode cX8_film 66 = .ok (.aload_n 0, 1) := by decide +kernel
theorem dX8_film_67 : decode cX8_film 67 = .ok (.bipush 61, 2) := by decide +kernel
theorem dX8_film_69 : decode cX8_film 69 = .ok (.invokevirtual 175, 3) := by decide +kernel
theorem dX8_film_72 : decode cX8_film 72 = .ok (.istore 7, 2) := by decide +kernel
theorem dX8_film_74 : decode cX8_film 74 = .ok (.aload_n 0, 1) := by decide +kernel
theorem dX8_film_75 : decode cX8_film 75 = .ok (.getfield 20, 3) := by decide +kernel
theorem dX8_film_78 : decode cX8_film 78 = .ok (.iconst 0, 1) := by decide +kernel
theorem dX8_film_79 : decode cX8_film 79 = .ok (.iload 7, 2) := by decide +kernel
theorem dX8_film_81 : decode cX8_film 81 = .ok (.ifCond .eq 12, 3) := by decide +kernel
theorem dX8_film_84 : decode cX8_film 84 = .ok (.aload_n 0, 1) := by decide +kernel
theorem dX8_film_85 : decode cX8_film 85 = .ok (.getfield 20, 3) := by decide +kernel
theorem dX8_film_88 : decode cX8_film 88 = .ok (.iconst 0, 1) := by decide +kernel
theorem dX8_film_89 : decode cX8_film 89 = .ok (.iaload, 1) := by decide +kernel
theorem dX8_film_90 : decode cX8_film 90 = .ok (.goto 4, 3) := by decide +kernel
theorem dX8_film_93 : decode cX8_film 93 = .ok (.iconst 0, 1) := by decide +kernel
theorem dX8_film_94 : decode cX8_film 94 = .ok (.iastore, 1) := by decide +kernel
theorem dX8_film_95 : decode cX8_film 95 = .ok (.aload_n 0, 1) := by decide +kernel
theorem dX8_film_96 : decode cX8_film 96 = .ok (.getfield 35, 3) := by decide +kernel
theorem dX8_film_99 : decode cX8_film 99 = .ok (.bipush 24, 2) := by decide +kernel
theorem dX8_film_101 : decode cX8_film 101 = .ok (.iload_n 2, 1) := by decide +kernel
theorem dX8_film_102 : decode cX8_film 102 = .ok (.imul, 1) := by decide +kernel
theorem dX8_film_103 : decode cX8_film 103 = .ok (.iload 4, 2) := by decide +kernel
theorem dX8_film_105 : decode cX8_film 105 = .ok (.iadd, 1) := by decide +kernel
theorem dX8_film_106 : decode cX8_film 106 = .ok (.iconst 2, 1) := by decide +kernel
theorem dX8_film_107 : decode cX8_film 107 = .ok (.iload 6, 2) := by decide +kernel
theorem dX8_film_109 : decode cX8_film 109 = .ok (.imul, 1) := by decide +kernel
theorem dX8_film_110 : decode cX8_film 110 = .ok (.iadd, 1) := by decide +kernel
theorem dX8_film_111 : decode cX8_film 111 = .ok (.iload_n 3, 1) := by decide +kernel
theorem dX8_film_112 : decode cX8_film 112 = .ok (.aload_n 0, 1) := by decide +kernel
theorem dX8_film_113 : decode cX8_film 113 = .ok (.getfield 7, 3) := by decide +kernel
theorem dX8_film_116 : decode cX8_film 116 = .ok (.bipush 61, 2) := by decide +kernel
theorem dX8_film_118 : decode cX8_film 118 = .ok (.iaload, 1) := by decide +kernel
theorem dX8_film_119 : decode cX8_film 119 = .ok (.i2l, 1) := by decide +kernel
theorem dX8_film_120 : decode cX8_film 120 = .ok (.invokestatic 217, 3) := by decide +kernel
theorem dX8_film_123 : decode cX8_film 123 = .ok (.lastore, 1) := by decide +kernel
theorem dX8_film_124 : decode cX8_film 124 = .ok (.aload_n 0, 1) := by decide +kernel
theorem dX8_film_125 : decode cX8_film 125 = .ok (.getfield 35, 3) := by decide +kernel
theorem dX8_film_128 : decode cX8_film 128 = .ok (.bipush 24, 2) := by decide +kernel
theorem dX8_film_130 : decode cX8_film 130 = .ok (.iload_n 2, 1) := by decide +kernel
theorem dX8_film_131 : decode cX8_film 131 = .ok (.imul, 1) := by decide +kernel
theorem dX8_film_132 : decode cX8_film 132 = .ok (.iload 4, 2) := by decide +kernel
theorem dX8_film_134 : decode cX8_film 134 = .ok (.iadd, 1) := by decide +kernel
theorem dX8_film_135 : decode cX8_film 135 = .ok (.iconst 2, 1) := by decide +kernel
theorem dX8_film_136 : decode cX8_film 136 = .ok (.iload 6, 2) := by decide +kernel
theorem dX8_film_138 : decode cX8_film 138 = .ok (.imul, 1) := by decide +kernel
theorem dX8_film_139 : decode cX8_film 139 = .ok (.iadd, 1) := by decide +kernel
theorem dX8_film_140 : decode cX8_film 140 = .ok (.iconst 1, 1) := by decide +kernel
theorem dX8_film_141 : decode cX8_film 141 = .ok (.iadd, 1) := by decide +kernel
theorem dX8_film_142 : decode cX8_film 142 = .ok (.iload_n 3, 1) := by decide +kernel
theorem dX8_film_143 : decode cX8_film 143 = .ok (.aload_n 0, 1) := by decide +kernel
theorem dX8_film_144 : decode cX8_film 144 = .ok (.getfield 7, 3) := by decide +kernel
theorem dX8_film_147 : decode cX8_film 147 = .ok (.bipush 62, 2) := by decide +kernel
theorem dX8_film_149 : decode cX8_film 149 = .ok (.iaload, 1) := by decide +kernel
theorem dX8_film_150 : decode cX8_film 150 = .ok (.i2l, 1) := by decide +kernel
theorem dX8_film_151 : decode cX8_film 151 = .ok (.invokestatic 217, 3) := by decide +kernel
theorem dX8_film_154 : decode cX8_film 154 = .ok (.lastore, 1) := by decide +kernel
theorem dX8_film_155 : decode cX8_film 155 = .ok (.iinc 6 1, 3) := by decide +kernel
theorem dX8_film_158 : decode cX8_film 158 = .ok (.goto (-98), 3) := by decide +kernel
theorem dX8_film_161 : decode cX8_film 161 = .ok (.iconst 2, 1) := by decide +kernel
theorem dX8_film_162 : decode cX8_film 162 = .ok (.iload_n 1, 1) := by decide +kernel
theorem dX8_film_163 : decode cX8_film 163 = .ok (.imul, 1) := by decide +kernel
theorem dX8_film_164 : decode cX8_film 164 = .ok (.ireturn, 1) := by decide +kernel
theorem dX8_sheet_0 : decode cX8_sheet 0 = .ok (.iload_n 1, 1) := by decide +kernel
theorem dX8_sheet_1 : decode cX8_sheet 1 = .ok (.invokestatic 203, 3) := by decide +kernel
theorem dX8_sheet_4 : decode cX8_sheet 4 = .ok (.ifCond .eq 16, 3) := by decide +kernel
theorem dX8_sheet_7 : decode cX8_sheet 7 = .ok (.iload_n 2, 1) := by decide +kernel
theorem dX8_sheet_8 : decode cX8_sheet 8 = .ok (.invokestatic 206, 3) := by decide +kernel
theorem dX8_sheet_11 : decode cX8_sheet 11 = .ok (.ifCond .eq 9, 3) := by decide +kernel
theorem dX8_sheet_14 : decode cX8_sheet 14 = .ok (.iload_n 3, 1) := by decide +kernel
theorem dX8_sheet_15 : decode cX8_sheet 15 = .ok (.bipush 24, 2) := by decide +kernel
theorem dX8_sheet_17 : decode cX8_sheet 17 = .ok (.if_icmp .le 6, 3) := by decide +kernel
theorem dX8_sheet_20 : decode cX8_sheet 20 = .ok (.ldc 112, 2) := by decide +kernel
theorem dX8_sheet_22 : decode cX8_sheet 22 = .ok (.ireturn, 1) := by decide +kernel
theorem dX8_sheet_23 : decode cX8_sheet 23 = .ok (.iload_n 3, 1) := by decide +kernel
theorem dX8_sheet_24 : decode cX8_sheet 24 = .ok (.ifCond .ge 6, 3) := by decide +kernel
theorem dX8_sheet_27 : decode cX8_sheet 27 = .ok (.ldc 221, 2) := by decide +kernel
theorem dX8_sheet_29 : decode cX8_sheet 29 = .ok (.ireturn, 1) := by decide +kernel
theorem dX8_sheet_30 : decode cX8_sheet 30 = .ok (.aload_n 0, 1) := by decide +kernel
theorem dX8_sheet_31 : decode cX8_sheet 31 = .ok (.getfield 29, 3) := by decide +kernel
theorem dX8_sheet_34 : decode cX8_sheet 34 = .ok (.iload_n 1, 1) := by decide +kernel
theorem dX8_sheet_35 : decode cX8_sheet 35 = .ok (.iload_n 3, 1) := by decide +kernel
theorem dX8_sheet_36 : decode cX8_sheet 36 = .ok (.iastore, 1) := by decide +kernel
theorem dX8_sheet_37 : decode cX8_sheet 37 = .ok (.aload_n 0, 1) := by decide +kernel
theorem dX8_sheet_38 : decode cX8_sheet 38 = .ok (.getfield 32, 3) := by decide +kernel
theorem dX8_sheet_41 : decode cX8_sheet 41 = .ok (.iload_n 1, 1) := by decide +kernel
theorem dX8_sheet_42 : decode cX8_sheet 42 = .ok (.iload_n 2, 1) := by decide +kernel
theorem dX8_sheet_43 : decode cX8_sheet 43 = .ok (.iastore, 1) := by decide +kernel
theorem dX8_sheet_44 : decode cX8_sheet 44 = .ok (.iconst 0, 1) := by decide +kernel
theorem dX8_sheet_45 : decode cX8_sheet 45 = .ok (.istore 4, 2) := by decide +kernel
theorem dX8_sheet_47 : decode cX8_sheet 47 = .ok (.iload 4, 2) := by decide +kernel
theorem dX8_sheet_49 : decode cX8_sheet 49 = .ok (.bipush 24, 2) := by decide +kernel
theorem dX8_sheet_51 : decode cX8_sheet 51 = .ok (.if_icmp .ge 22, 3) := by decide +kernel
theorem dX8_sheet_54 : decode cX8_sheet 54 = .ok (.aload_n 0, 1) := by decide +kernel
theorem dX8_sheet_55 : decode cX8_sheet 55 = .ok (.getfield 35, 3) := by decide +kernel
theorem dX8_sheet_58 : decode cX8_sheet 58 = .ok (.bipush 24, 2) := by decide +kernel
theorem dX8_sheet_60 : decode cX8_sheet 60 = .ok (.iload_n 1, 1) := by decide +kernel
theorem dX8_sheet_61 : decode cX8_sheet 61 = .ok (.imul, 1) := by decide +kernel
theorem dX8_sheet_62 : decode cX8_sheet 62 = .ok (.iload 4, 2) := by decide +kernel
theorem dX8_sheet_64 : decode cX8_sheet 64 = .ok (.iadd, 1) := by decide +kernel
theorem dX8_sheet_65 : decode cX8_sheet 65 = .ok (.lconst 0, 1) := by decide +kernel
theorem dX8_sheet_66 : decode cX8_sheet 66 = .ok (.lastore, 1) := by decide +kernel
theorem dX8_sheet_67 : decode cX8_sheet 67 = .ok (.iinc 4 1, 3) := by decide +kernel
theorem dX8_sheet_70 : decode cX8_sheet 70 = .ok (.goto (-23), 3) := by decide +kernel
theorem dX8_sheet_73 : decode cX8_sheet 73 = .ok (.iload_n 3, 1) := by decide +kernel
theorem dX8_sheet_74 : decode cX8_sheet 74 = .ok (.ireturn, 1) := by decide +kernel
theorem dX8_drop_0 : decode cX8_drop 0 = .ok (.iload_n 1, 1) := by decide +kernel
theorem dX8_drop_1 : decode cX8_drop 1 = .ok (.invokestatic 203, 3) := by decide +kernel
theorem dX8_drop_4 : decode cX8_drop 4 = .ok (.ifCond .ne 6, 3) := by decide +kernel
theorem dX8_drop_7 : decode cX8_drop 7 = .ok (.ldc 112, 2) := by decide +kernel
theorem dX8_drop_9 : decode cX8_drop 9 = .ok (.ireturn, 1) := by decide +kernel
theorem dX8_drop_10 : decode cX8_drop 10 = .ok (.aload_n 0, 1) := by decide +kernel
theorem dX8_drop_11 : decode cX8_drop 11 = .ok (.getfield 29, 3) := by decide +kernel
theorem dX8_drop_14 : decode cX8_drop 14 = .ok (.iload_n 1, 1) := by decide +kernel
theorem dX8_drop_15 : decode cX8_drop 15 = .ok (.iaload, 1) := by decide +kernel
theorem dX8_drop_16 : decode cX8_drop 16 = .ok (.istore_n 2, 1) := by decide +kernel
theorem dX8_drop_17 : decode cX8_drop 17 = .ok (.aload_n 0, 1) := by decide +kernel
theorem dX8_drop_18 : decode cX8_drop 18 = .ok (.getfield 29, 3) := by decide +kernel
theorem dX8_drop_21 : decode cX8_drop 21 = .ok (.iload_n 1, 1) := by decide +kernel
theorem dX8_drop_22 : decode cX8_drop 22 = .ok (.iconst (-1), 1) := by decide +kernel
theorem dX8_drop_23 : decode cX8_drop 23 = .ok (.iastore, 1) := by decide +kernel
theorem dX8_drop_24 : decode cX8_drop 24 = .ok (.iload_n 2, 1) := by decide +kernel
theorem dX8_drop_25 : decode cX8_drop 25 = .ok (.ifCond .ge 8, 3) := by decide +kernel
theorem dX8_drop_28 : decode cX8_drop 28 = .ok (.ldc 200, 2) := by decide +kernel
theorem dX8_drop_30 : decode cX8_drop 30 = .ok (.goto 4, 3) := by decide +kernel
theorem dX8_drop_33 : decode cX8_drop 33 = .ok (.iload_n 2, 1) := by decide +kernel
theorem dX8_drop_34 : decode cX8_drop 34 = .ok (.ireturn, 1) := by decide +kernel
theorem dX8_item_0 : decode cX8_item 0 = .ok (.iload_n 1, 1) := by decide +kernel
theorem dX8_item_1 : decode cX8_item 1 = .ok (.invokestatic 203, 3) := by decide +kernel
theorem dX8_item_4 : decode cX8_item 4 = .ok (.ifCond .eq 10, 3) := by decide +kernel
theorem dX8_item_7 : decode cX8_item 7 = .ok (.iload_n 2, 1) := by decide +kernel
theorem dX8_item_8 : decode cX8_item 8 = .ok (.invokestatic 206, 3) := by decide +kernel
theorem dX8_item_11 : decode cX8_item 11 = .ok (.ifCond .ne 6, 3) := by decide +kernel
theorem dX8_item_14 : decode cX8_item 14 = .ok (.ldc 112, 2) := by decide +kernel
theorem dX8_item_16 : decode cX8_item 16 = .ok (.ireturn, 1) := by decide +kernel
theorem dX8_item_17 : decode cX8_item 17 = .ok (.aload_n 0, 1) := by decide +kernel
theorem dX8_item_18 : decode cX8_item 18 = .ok (.iload_n 1, 1) := by decide +kernel
theorem dX8_item_19 : decode cX8_item 19 = .ok (.iload_n 2, 1) := by decide +kernel
theorem dX8_item_20 : decode cX8_item 20 = .ok (.iload_n 3, 1) := by decide +kernel
theorem dX8_item_21 : decode cX8_item 21 = .ok (.iconst 1, 1) := by decide +kernel
theorem dX8_item_22 : decode cX8_item 22 = .ok (.invokevirtual 209, 3) := by decide +kernel
theorem dX8_item_25 : decode cX8_item 25 = .ok (.istore 6, 2) := by decide +kernel
theorem dX8_item_27 : decode cX8_item 27 = .ok (.iload 6, 2) := by decide +kernel
theorem dX8_item_29 : decode cX8_item 29 = .ok (.ifCond .eq 6, 3) := by decide +kernel
theorem dX8_item_32 : decode cX8_item 32 = .ok (.iload 6, 2) := by decide +kernel
theorem dX8_item_34 : decode cX8_item 34 = .ok (.ireturn, 1) := by decide +kernel
theorem dX8_item_35 : decode cX8_item 35 = .ok (.aload_n 0, 1) := by decide +kernel
theorem dX8_item_36 : decode cX8_item 36 = .ok (.getfield 35, 3) := by decide +kernel
theorem dX8_item_39 : decode cX8_item 39 = .ok (.bipush 24, 2) := by decide +kernel
theorem dX8_item_41 : decode cX8_item 41 = .ok (.iload_n 1, 1) := by decide +kernel
theorem dX8_item_42 : decode cX8_item 42 = .ok (.imul, 1) := by decide +kernel
theorem dX8_item_43 : decode cX8_item 43 = .ok (.iload_n 3, 1) := by decide +kernel
theorem dX8_item_44 : decode cX8_item 44 = .ok (.iadd, 1) := by decide +kernel
theorem dX8_item_45 : decode cX8_item 45 = .ok (.iload_n 2, 1) := by decide +kernel
theorem dX8_item_46 : decode cX8_item 46 = .ok (.lload 4, 2) := by decide +kernel
theorem dX8_item_48 : decode cX8_item 48 = .ok (.invokestatic 217, 3) := by decide +kernel
theorem dX8_item_51 : decode cX8_item 51 = .ok (.lastore, 1) := by decide +kernel
theorem dX8_item_52 : decode cX8_item 52 = .ok (.iconst 1, 1) := by decide +kernel
theorem dX8_item_53 : decode cX8_item 53 = .ok (.ireturn, 1) := by decide +kernel
theorem dX8_copy_0 : decode cX8_copy 0 = .ok (.iload_n 1, 1) := by decide +kernel
theorem dX8_copy_1 : decode cX8_copy 1 = .ok (.invokestatic 203, 3) := by decide +kernel
theorem dX8_copy_4 : decode cX8_copy 4 = .ok (.ifCond .eq 10, 3) := by decide +kernel
theorem dX8_copy_7 : decode cX8_copy 7 = .ok (.iload_n 3, 1) := by decide +kernel
theorem dX8_copy_8 : decode cX8_copy 8 = .ok (.invokestatic 203, 3) := by decide +kernel
theorem dX8_copy_11 : decode cX8_copy 11 = .ok (.ifCond .ne 6, 3) := by decide +kernel
theorem dX8_copy_14 : decode cX8_copy 14 = .ok (.ldc 112, 2) := by decide +kernel
theorem dX8_copy_16 : decode cX8_copy 16 = .ok (.ireturn, 1) := by decide +kernel
theorem dX8_copy_17 : decode cX8_copy 17 = .ok (.aload_n 0, 1) := by decide +kernel
theorem dX8_copy_18 : decode cX8_copy 18 = .ok (.getfield 29, 3) := by decide +kernel
theorem dX8_copy_21 : decode cX8_copy 21 = .ok (.iload_n 1, 1) := by decide +kernel
theorem dX8_copy_22 : decode cX8_copy 22 = .ok (.iaload, 1) := by decide +kernel
theorem dX8_copy_23 : decode cX8_copy 23 = .ok (.ifCond .lt 12, 3) := by decide +kernel
theorem dX8_copy_26 : decode cX8_copy 26 = .ok (.aload_n 0, 1) := by decide +kernel
theorem dX8_copy_27 : decode cX8_copy 27 = .ok (.getfield 29, 3) := by decide +kernel
theorem dX8_copy_30 : decode cX8_copy 30 = .ok (.iload_n 3, 1) := by decide +kernel
theorem dX8_copy_31 : decode cX8_copy 31 = .ok (.iaload, 1) := by decide +kernel
theorem dX8_copy_32 : decode cX8_copy 32 = .ok (.ifCond .ge 6, 3) := by decide +kernel
theorem dX8_copy_35 : decode cX8_copy 35 = .ok (.ldc 200, 2) := by decide +kernel
theorem dX8_copy_37 : decode cX8_copy 37 = .ok (.ireturn, 1) := by decide +kernel
theorem dX8_copy_38 : decode cX8_copy 38 = .ok (.aload_n 0, 1) := by decide +kernel
theorem dX8_copy_39 : decode cX8_copy 39 = .ok (.getfield 32, 3) := by decide +kernel
theorem dX8_copy_42 : decode cX8_copy 42 = .ok (.iload_n 1, 1) := by decide +kernel
theorem dX8_copy_43 : decode cX8_copy 43 = .ok (.iaload, 1) := by decide +kernel
theorem dX8_copy_44 : decode cX8_copy 44 = .ok (.aload_n 0, 1) := by decide +kernel
theorem dX8_copy_45 : decode cX8_copy 45 = .ok (.getfield 32, 3) := by decide +kernel
theorem dX8_copy_48 : decode cX8_copy 48 = .ok (.iload_n 3, 1) := by decide +kernel
theorem dX8_copy_49 : decode cX8_copy 49 = .ok (.iaload, 1) := by decide +kernel
theorem dX8_copy_50 : decode cX8_copy 50 = .ok (.if_icmp .eq 6, 3) := by decide +kernel
theorem dX8_copy_53 : decode cX8_copy 53 = .ok (.ldc 201, 2) := by decide +kernel
theorem dX8_copy_55 : decode cX8_copy 55 = .ok (.ireturn, 1) := by decide +kernel
theorem dX8_copy_56 : decode cX8_copy 56 = .ok (.aload_n 0, 1) := by decide +kernel
theorem dX8_copy_57 : decode cX8_copy 57 = .ok (.iload_n 1, 1) := by decide +kernel
theorem dX8_copy_58 : decode cX8_copy 58 = .ok (.aload_n 0, 1) := by decide +kernel
theorem dX8_copy_59 : decode cX8_copy 59 = .ok (.getfield 32, 3) := by decide +kernel
theorem dX8_copy_62 : decode cX8_copy 62 = .ok (.iload_n 1, 1) := by decide +kernel
theorem dX8_copy_63 : decode cX8_copy 63 = .ok (.iaload, 1) := by decide +kernel
theorem dX8_copy_64 : decode cX8_copy 64 = .ok (.iload_n 2, 1) := by decide +kernel
theorem dX8_copy_65 : decode cX8_copy 65 = .ok (.iload 5, 2) := by decide +kernel
theorem dX8_copy_67 : decode cX8_copy 67 = .ok (.invokevirtual 209, 3) := by decide +kernel
theorem dX8_copy_70 : decode cX8_copy 70 = .ok (.ifCond .ne 21, 3) := by decide +kernel
theorem dX8_copy_73 : decode cX8_copy 73 = .ok (.aload_n 0, 1) := by decide +kernel
theorem dX8_copy_74 : decode cX8_copy 74 = .ok (.iload_n 3, 1) := by decide +kernel
theorem dX8_copy_75 : decode cX8_copy 75 = .ok (.aload_n 0, 1) := by decide +kernel
theorem dX8_copy_76 : decode cX8_copy 76 = .ok (.getfield 32, 3) := by decide +kernel
theorem dX8_copy_79 : decode cX8_copy 79 = .ok (.iload_n 3, 1) := by decide +kernel
theorem dX8_copy_80 : decode cX8_copy 80 = .ok (.iaload, 1) := by decide +kernel
theorem dX8_copy_81 : decode cX8_copy 81 = .ok (.iload 4, 2) := by decide +kernel
theorem dX8_copy_83 : decode cX8_copy 83 = .ok (.iload 5, 2) := by decide +kernel
theorem dX8_copy_85 : decode cX8_copy 85 = .ok (.invokevirtual 209, 3) := by decide +kernel
theorem dX8_copy_88 : decode cX8_copy 88 = .ok (.ifCond .eq 6, 3) := by decide +kernel
theorem dX8_copy_91 : decode cX8_copy 91 = .ok (.ldc 202, 2) := by decide +kernel
theorem dX8_copy_93 : decode cX8_copy 93 = .ok (.ireturn, 1) := by decide +kernel
theorem dX8_copy_94 : decode cX8_copy 94 = .ok (.iconst 0, 1) := by decide +kernel
theorem dX8_copy_95 : decode cX8_copy 95 = .ok (.istore 6, 2) := by decide +kernel
theorem dX8_copy_97 : decode cX8_copy 97 = .ok (.iload 6, 2) := by decide +kernel
theorem dX8_copy_99 : decode cX8_copy 99 = .ok (.iload 5, 2) := by decide +kernel
theorem dX8_copy_101 : decode cX8_copy 101 = .ok (.if_icmp .ge 30, 3) := by decide +kernel
theorem dX8_copy_104 : decode cX8_copy 104 = .ok (.aload_n 0, 1) := by decide +kernel
theorem dX8_copy_105 : decode cX8_copy 105 = .ok (.getfield 39, 3) := by decide +kernel
theorem dX8_copy_108 : decode cX8_copy 108 = .ok (.iload 6, 2) := by decide +kernel
theorem dX8_copy_110 : decode cX8_copy 110 = .ok (.aload_n 0, 1) := by decide +kernel
theorem dX8_copy_111 : decode cX8_copy 111 = .ok (.getfield 35, 3) := by decide +kernel
theorem dX8_copy_114 : decode cX8_copy 114 = .ok (.bipush 24, 2) := by decide +kernel
theorem dX8_copy_116 : decode cX8_copy 116 = .ok (.iload_n 1, 1) := by decide +kernel
theorem dX8_copy_117 : decode cX8_copy 117 = .ok (.imul, 1) := by decide +kernel
theorem dX8_copy_118 : decode cX8_copy 118 = .ok (.iload_n 2, 1) := by decide +kernel
theorem dX8_copy_119 : decode cX8_copy 119 = .ok (.iadd, 1) := by decide +kernel
theorem dX8_copy_120 : decode cX8_copy 120 = .ok (.iload 6, 2) := by decide +kernel
theorem dX8_copy_122 : decode cX8_copy 122 = .ok (.iadd, 1) := by decide +kernel
theorem dX8_copy_123 : decode cX8_copy 123 = .ok (.laload, 1) := by decide +kernel
theorem dX8_copy_124 : decode cX8_copy 124 = .ok (.lastore, 1) := by decide +kernel
theorem dX8_copy_125 : decode cX8_copy 125 = .ok (.iinc 6 1, 3) := by decide +kernel
theorem dX8_copy_128 : decode cX8_copy 128 = .ok (.goto (-31), 3) := by decide +kernel
theorem dX8_copy_131 : decode cX8_copy 131 = .ok (.iconst 0, 1) := by decide +kernel
theorem dX8_copy_132 : decode cX8_copy 132 = .ok (.istore 6, 2) := by decide +kernel
theorem dX8_copy_134 : decode cX8_copy 134 = .ok (.iload 6, 2) := by decide +kernel
theorem dX8_copy_136 : decode cX8_copy 136 = .ok (.iload 5, 2) := by decide +kernel
theorem dX8_copy_138 : decode cX8_copy 138 = .ok (.if_icmp .ge 31, 3) := by decide +kernel
theorem dX8_copy_141 : decode cX8_copy 141 = .ok (.aload_n 0, 1) := by decide +kernel
theorem dX8_copy_142 : decode cX8_copy 142 = .ok (.getfield 35, 3) := by decide +kernel
theorem dX8_copy_145 : decode cX8_copy 145 = .ok (.bipush 24, 2) := by decide +kernel
theorem dX8_copy_147 : decode cX8_copy 147 = .ok (.iload_n 3, 1) := by decide +kernel
theorem dX8_copy_148 : decode cX8_copy 148 = .ok (.imul, 1) := by decide +kernel
theorem dX8_copy_149 : decode cX8_copy 149 = .ok (.iload 4, 2) := by decide +kernel
theorem dX8_copy_151 : decode cX8_copy 151 = .ok (.iadd, 1) := by decide +kernel
theorem dX8_copy_152 : decode cX8_copy 152 = .ok (.iload 6, 2) := by decide +kernel
theorem dX8_copy_154 : decode cX8_copy 154 = .ok (.iadd, 1) := by decide +kernel
theorem dX8_copy_155 : decode cX8_copy 155 = .ok (.aload_n 0, 1) := by decide +kernel
theorem dX8_copy_156 : decode cX8_copy 156 = .ok (.getfield 39, 3) := by decide +kernel
theorem dX8_copy_159 : decode cX8_copy 159 = .ok (.iload 6, 2) := by decide +kernel
theorem dX8_copy_161 : decode cX8_copy 161 = .ok (.laload, 1) := by decide +kernel
theorem dX8_copy_162 : decode cX8_copy 162 = .ok (.lastore, 1) := by decide +kernel
theorem dX8_copy_163 : decode cX8_copy 163 = .ok (.iinc 6 1, 3) := by decide +kernel
theorem dX8_copy_166 : decode cX8_copy 166 = .ok (.goto (-32), 3) := by decide +kernel
theorem dX8_copy_169 : decode cX8_copy 169 = .ok (.iload 5, 2) := by decide +kernel
theorem dX8_copy_171 : decode cX8_copy 171 = .ok (.ireturn, 1) := by decide +kernel
theorem dJ0_length_8abf5_0 : decode cJ0_length_8abf5 0 = .ok (.aload_n 0, 1) := by decide +kernel
theorem dJ0_length_8abf5_1 : decode cJ0_length_8abf5 1 = .ok (.getfield 9, 3) := by decide +kernel
theorem dJ0_length_8abf5_4 : decode cJ0_length_8abf5 4 = .ok (.arraylength, 1) := by decide +kernel
theorem dJ0_length_8abf5_5 : decode cJ0_length_8abf5 5 = .ok (.aload_n 0, 1) := by decide +kernel
theorem dJ0_length_8abf5_6 : decode cJ0_length_8abf5 6 = .ok (.invokevirtual 335, 3) := by decide +kernel
theorem dJ0_length_8abf5_9 : decode cJ0_length_8abf5 9 = .ok (.ishr, 1) := by decide +kernel
theorem dJ0_length_8abf5_10 : decode cJ0_length_8abf5 10 = .ok (.ireturn, 1) := by decide +kernel
theorem dJ0_indexOf_0f7a4_0 : decode cJ0_indexOf_0f7a4 0 = .ok (.aload_n 0, 1) := by decide +kernel
theorem dJ0_indexOf_0f7a4_1 : decode cJ0_indexOf_0f7a4 1 = .ok (.iload_n 1, 1) := by decide +kernel
theorem dJ0_indexOf_0f7a4_2 : decode cJ0_indexOf_0f7a4 2 = .ok (.iconst 0, 1) := by decide +kernel
theorem dJ0_indexOf_0f7a4_3 : decode cJ0_indexOf_0f7a4 3 = .ok (.invokevirtual 633, 3) := by decide +kernel
theorem dJ0_indexOf_0f7a4_6 : decode cJ0_indexOf_0f7a4 6 = .ok (.ireturn, 1) := by decide +kernel
theorem dJ0_indexOf_7cf53_0 : decode cJ0_indexOf_7cf53 0 = .ok (.aload_n 0, 1) := by decide +kernel
theorem dJ0_indexOf_7cf53_1 : decode cJ0_indexOf_7cf53 1 = .ok (.invokevirtual 492, 3) := by decide +kernel
theorem dJ0_indexOf_7cf53_4 : decode cJ0_indexOf_7cf53 4 = .ok (.ifCond .eq 19, 3) := by decide +kernel
theorem dJ0_indexOf_7cf53_7 : decode cJ0_indexOf_7cf53 7 = .ok (.aload_n 0, 1) := by decide +kernel
theorem dJ0_indexOf_7cf53_8 : decode cJ0_indexOf_7cf53 8 = .ok (.getfield 9, 3) := by decide +kernel
theorem dJ0_indexOf_7cf53_11 : decode cJ0_indexOf_7cf53 11 = .ok (.iload_n 1, 1) := by decide +kernel
theorem dJ0_indexOf_7cf53_12 : decode cJ0_indexOf_7cf53 12 = .ok (.iload_n 2, 1) := by decide +kernel
theorem dJ0_indexOf_7cf53_13 : decode cJ0_indexOf_7cf53 13 = .ok (.aload_n 0, 1) := by decide +kernel
theorem dJ0_indexOf_7cf53_14 : decode cJ0_indexOf_7cf53 14 = .ok (.invokevirtual 505, 3) := by decide +kernel
theorem dJ0_indexOf_7cf53_17 : decode cJ0_indexOf_7cf53 17 = .ok (.invokestatic 637, 3) := by decide +kernel
theorem dJ0_indexOf_7cf53_20 : decode cJ0_indexOf_7cf53 20 = .ok (.goto 16, 3) := by decide +kernel
theorem dJ0_indexOf_7cf53_23 : decode cJ0_indexOf_7cf53 23 = .ok (.aload_n 0, 1) := by decide +kernel
theorem dJ0_indexOf_7cf53_24 : decode cJ0_indexOf_7cf53 24 = .ok (.getfield 9, 3) := by decide +kernel
theorem dJ0_indexOf_7cf53_27 : decode cJ0_indexOf_7cf53 27 = .ok (.iload_n 1, 1) := by decide +kernel
theorem dJ0_indexOf_7cf53_28 : decode cJ0_indexOf_7cf53 28 = .ok (.iload_n 2, 1) := by decide +kernel
theorem dJ0_indexOf_7cf53_29 : decode cJ0_indexOf_7cf53 29 = .ok (.aload_n 0, 1) := by decide +kernel
theorem dJ0_indexOf_7cf53_30 : decode cJ0_indexOf_7cf53 30 = .ok (.invokevirtual 505, 3) := by decide +kernel
theorem dJ0_indexOf_7cf53_33 : decode cJ0_indexOf_7cf53 33 = .ok (.invokestatic 640, 3) := by decide +kernel
theorem dJ0_indexOf_7cf53_36 : decode cJ0_indexOf_7cf53 36 = .ok (.ireturn, 1) := by decide +kernel
theorem dJ0_coder_7d493_0 : decode cJ0_coder_7d493 0 = .ok (.getstatic 38, 3) := by decide +kernel
theorem dJ0_coder_7d493_3 : decode cJ0_coder_7d493 3 = .ok (.ifCond .eq 10, 3) := by decide +kernel
theorem dJ0_coder_7d493_6 : decode cJ0_coder_7d493 6 = .ok (.aload_n 0, 1) := by decide +kernel
theorem dJ0_coder_7d493_7 : decode cJ0_coder_7d493 7 = .ok (.getfield 15, 3) := by decide +kernel
theorem dJ0_coder_7d493_10 : decode cJ0_coder_7d493 10 = .ok (.goto 4, 3) := by decide +kernel
theorem dJ0_coder_7d493_13 : decode cJ0_coder_7d493 13 = .ok (.iconst 1, 1) := by decide +kernel
theorem dJ0_coder_7d493_14 : decode cJ0_coder_7d493 14 = .ok (.ireturn, 1) := by decide +kernel
theorem dJ0_isLatin1_aae02_0 : decode cJ0_isLatin1_aae02 0 = .ok (.getstatic 38, 3) := by decide +kernel
theorem dJ0_isLatin1_aae02_3 : decode cJ0_isLatin1_aae02 3 = .ok (.ifCond .eq 14, 3) := by decide +kernel
theorem dJ0_isLatin1_aae02_6 : decode cJ0_isLatin1_aae02 6 = .ok (.aload_n 0, 1) := by decide +kernel
theorem dJ0_isLatin1_aae02_7 : decode cJ0_isLatin1_aae02 7 = .ok (.getfield 15, 3) := by decide +kernel
theorem dJ0_isLatin1_aae02_10 : decode cJ0_isLatin1_aae02 10 = .ok (.ifCond .ne 7, 3) := by decide +kernel
theorem dJ0_isLatin1_aae02_13 : decode cJ0_isLatin1_aae02 13 = .ok (.iconst 1, 1) := by decide +kernel
theorem dJ0_isLatin1_aae02_14 : decode cJ0_isLatin1_aae02 14 = .ok (.goto 4, 3) := by decide +kernel
theorem dJ0_isLatin1_aae02_17 : decode cJ0_isLatin1_aae02 17 = .ok (.iconst 0, 1) := by decide +kernel
theorem dJ0_isLatin1_aae02_18 : decode cJ0_isLatin1_aae02 18 = .ok (.ireturn, 1) := by decide +kernel
theorem dJ1_canEncode_9a6ad_0 : decode cJ1_canEncode_9a6ad 0 = .ok (.iload_n 0, 1) := by decide +kernel
theorem dJ1_canEncode_9a6ad_1 : decode cJ1_canEncode_9a6ad 1 = .ok (.ifCond .lt 14, 3) := by decide +kernel
theorem dJ1_canEncode_9a6ad_4 : decode cJ1_canEncode_9a6ad 4 = .ok (.iload_n 0, 1) := by decide +kernel
theorem dJ1_canEncode_9a6ad_5 : decode cJ1_canEncode_9a6ad 5 = .ok (.sipush 255, 3) := by decide +kernel
theorem dJ1_canEncode_9a6ad_8 : decode cJ1_canEncode_9a6ad 8 = .ok (.if_icmp .gt 7, 3) := by decide +kernel
theorem dJ1_canEncode_9a6ad_11 : decode cJ1_canEncode_9a6ad 11 = .ok (.iconst 1, 1) := by decide +kernel
theorem dJ1_canEncode_9a6ad_12 : decode cJ1_canEncode_9a6ad 12 = .ok (.goto 4, 3) := by decide +kernel
theorem dJ1_canEncode_9a6ad_15 : decode cJ1_canEncode_9a6ad 15 = .ok (.iconst 0, 1) := by decide +kernel
theorem dJ1_canEncode_9a6ad_16 : decode cJ1_canEncode_9a6ad 16 = .ok (.ireturn, 1) := by decide +kernel
theorem dJ1_indexOf_4cfef_0 : decode cJ1_indexOf_4cfef 0 = .ok (.iload_n 1, 1) := by decide +kernel
theorem dJ1_indexOf_4cfef_1 : decode cJ1_indexOf_4cfef 1 = .ok (.invokestatic 88, 3) := by decide +kernel
theorem dJ1_indexOf_4cfef_4 : decode cJ1_indexOf_4cfef 4 = .ok (.ifCond .ne 5, 3) := by decide +kernel
theorem dJ1_indexOf_4cfef_7 : decode cJ1_indexOf_4cfef 7 = .ok (.iconst (-1), 1) := by decide +kernel
theorem dJ1_indexOf_4cfef_8 : decode cJ1_indexOf_4cfef 8 = .ok (.ireturn, 1) := by decide +kernel
theorem dJ1_indexOf_4cfef_9 : decode cJ1_indexOf_4cfef 9 = .ok (.iload_n 2, 1) := by decide +kernel
theorem dJ1_indexOf_4cfef_10 : decode cJ1_indexOf_4cfef 10 = .ok (.iconst 0, 1) := by decide +kernel
theorem dJ1_indexOf_4cfef_11 : decode cJ1_indexOf_4cfef 11 = .ok (.invokestatic 92, 3) := by decide +kernel
theorem dJ1_indexOf_4cfef_14 : decode cJ1_indexOf_4cfef 14 = .ok (.istore_n 2, 1) := by decide +kernel
theorem dJ1_indexOf_4cfef_15 : decode cJ1_indexOf_4cfef 15 = .ok (.iload_n 3, 1) := by decide +kernel
theorem dJ1_indexOf_4cfef_16 : decode cJ1_indexOf_4cfef 16 = .ok (.aload_n 0, 1) := by decide +kernel
theorem dJ1_indexOf_4cfef_17 : decode cJ1_indexOf_4cfef 17 = .ok (.arraylength, 1) := by decide +kernel
theorem dJ1_indexOf_4cfef_18 : decode cJ1_indexOf_4cfef 18 = .ok (.invokestatic 38, 3) := by decide +kernel
theorem dJ1_indexOf_4cfef_21 : decode cJ1_indexOf_4cfef 21 = .ok (.istore_n 3, 1) := by decide +kernel
theorem dJ1_indexOf_4cfef_22 : decode cJ1_indexOf_4cfef 22 = .ok (.iload_n 2, 1) := by decide +kernel
theorem dJ1_indexOf_4cfef_23 : decode cJ1_indexOf_4cfef 23 = .ok (.iload_n 3, 1) := by decide +kernel
theorem dJ1_indexOf_4cfef_24 : decode cJ1_indexOf_4cfef 24 = .ok (.if_icmp .lt 5, 3) := by decide +kernel
theorem dJ1_indexOf_4cfef_27 : decode cJ1_indexOf_4cfef 27 = .ok (.iconst (-1), 1) := by decide +kernel
theorem dJ1_indexOf_4cfef_28 : decode cJ1_indexOf_4cfef 28 = .ok (.ireturn, 1) := by decide +kernel
theorem dJ1_indexOf_4cfef_29 : decode cJ1_indexOf_4cfef 29 = .ok (.aload_n 0, 1) := by decide +kernel
theorem dJ1_indexOf_4cfef_30 : decode cJ1_indexOf_4cfef 30 = .ok (.iload_n 1, 1) := by decide +kernel
theorem dJ1_indexOf_4cfef_31 : decode cJ1_indexOf_4cfef 31 = .ok (.iload_n 2, 1) := by decide +kernel
theorem dJ1_indexOf_4cfef_32 : decode cJ1_indexOf_4cfef 32 = .ok (.iload_n 3, 1) := by decide +kernel
theorem dJ1_indexOf_4cfef_33 : decode cJ1_indexOf_4cfef 33 = .ok (.invokestatic 95, 3) := by decide +kernel
theorem dJ1_indexOf_4cfef_36 : decode cJ1_indexOf_4cfef 36 = .ok (.ireturn, 1) := by decide +kernel
theorem dJ1_indexOfChar_4cfef_0 : decode cJ1_indexOfChar_4cfef 0 = .ok (.iload_n 1, 1) := by decide +kernel
theorem dJ1_indexOfChar_4cfef_1 : decode cJ1_indexOfChar_4cfef 1 = .ok (.i2b, 1) := by decide +kernel
theorem dJ1_indexOfChar_4cfef_2 : decode cJ1_indexOfChar_4cfef 2 = .ok (.istore 4, 2) := by decide +kernel
theorem dJ1_indexOfChar_4cfef_4 : decode cJ1_indexOfChar_4cfef 4 = .ok (.iload_n 2, 1) := by decide +kernel
theorem dJ1_indexOfChar_4cfef_5 : decode cJ1_indexOfChar_4cfef 5 = .ok (.istore 5, 2) := by decide +kernel
theorem dJ1_indexOfChar_4cfef_7 : decode cJ1_indexOfChar_4cfef 7 = .ok (.iload 5, 2) := by decide +kernel
theorem dJ1_indexOfChar_4cfef_9 : decode cJ1_indexOfChar_4cfef 9 = .ok (.iload_n 3, 1) := by decide +kernel
theorem dJ1_indexOfChar_4cfef_10 : decode cJ1_indexOfChar_4cfef 10 = .ok (.if_icmp .ge 21, 3) := by decide +kernel
theorem dJ1_indexOfChar_4cfef_13 : decode cJ1_indexOfChar_4cfef 13 = .ok (.aload_n 0, 1) := by decide +kernel
theorem dJ1_indexOfChar_4cfef_14 : decode cJ1_indexOfChar_4cfef 14 = .ok (.iload 5, 2) := by decide +kernel
theorem dJ1_indexOfChar_4cfef_16 : decode cJ1_indexOfChar_4cfef 16 = .ok (.baload, 1) := by decide +kernel
theorem dJ1_indexOfChar_4cfef_17 : decode cJ1_indexOfChar_4cfef 17 = .ok (.iload 4, 2) := by decide +kernel
theorem dJ1_indexOfChar_4cfef_19 : decode cJ1_indexOfChar_4cfef 19 = .ok (.if_icmp .ne 6, 3) := by decide +kernel
theorem dJ1_indexOfChar_4cfef_22 : decode cJ1_indexOfChar_4cfef 22 = .ok (.iload 5, 2) := by decide +kernel
theorem dJ1_indexOfChar_4cfef_24 : decode cJ1_indexOfChar_4cfef 24 = .ok (.ireturn, 1) := by decide +kernel
theorem dJ1_indexOfChar_4cfef_25 : decode cJ1_indexOfChar_4cfef 25 = .ok (.iinc 5 1, 3) := by decide +kernel
theorem dJ1_indexOfChar_4cfef_28 : decode cJ1_indexOfChar_4cfef 28 = .ok (.goto (-21), 3) := by decide +kernel
theorem dJ1_indexOfChar_4cfef_31 : decode cJ1_indexOfChar_4cfef 31 = .ok (.iconst (-1), 1) := by decide +kernel
theorem dJ1_indexOfChar_4cfef_32 : decode cJ1_indexOfChar_4cfef 32 = .ok (.ireturn, 1) := by decide +kernel
theorem dL_law_0 : decode cL_law 0 = .ok (.new 7, 3) := by decide +kernel
theorem dL_law_3 : decode cL_law 3 = .ok (.dup, 1) := by decide +kernel
theorem dL_law_4 : decode cL_law 4 = .ok (.invokespecial 9, 3) := by decide +kernel
theorem dL_law_7 : decode cL_law 7 = .ok (.astore_n 1, 1) := by decide +kernel
theorem dL_law_8 : decode cL_law 8 = .ok (.new 10, 3) := by decide +kernel
theorem dL_law_11 : decode cL_law 11 = .ok (.dup, 1) := by decide +kernel
theorem dL_law_12 : decode cL_law 12 = .ok (.invokespecial 12, 3) := by decide +kernel
theorem dL_law_15 : decode cL_law 15 = .ok (.astore_n 2, 1) := by decide +kernel
theorem dL_law_16 : decode cL_law 16 = .ok (.iconst 0, 1) := by decide +kernel
theorem dL_law_17 : decode cL_law 17 = .ok (.istore_n 3, 1) := by decide +kernel
theorem dL_law_18 : decode cL_law 18 = .ok (.iload_n 3, 1) := by decide +kernel
theorem dL_law_19 : decode cL_law 19 = .ok (.aload_n 0, 1) := by decide +kernel
theorem dL_law_20 : decode cL_law 20 = .ok (.arraylength, 1) := by decide +kernel
theorem dL_law_21 : decode cL_law 21 = .ok (.bipush 7, 2) := by decide +kernel
theorem dL_law_23 : decode cL_law 23 = .ok (.isub, 1) := by decide +kernel
theorem dL_law_24 : decode cL_law 24 = .ok (.if_icmp .gt 1115, 3) := by decide +kernel
theorem dL_law_27 : decode cL_law 27 = .ok (.aload_n 0, 1) := by decide +kernel
theorem dL_law_28 : decode cL_law 28 = .ok (.iload_n 3, 1) := by decide +kernel
theorem dL_law_29 : decode cL_law 29 = .ok (.iaload, 1) := by decide +kernel
theorem dL_law_30 : decode cL_law 30 = .ok (.bipush 31, 2) := by decide +kernel
theorem dL_law_32 : decode cL_law 32 = .ok (.iand, 1) := by decide +kernel
theorem dL_law_33 : decode cL_law 33 = .ok (.tableswitch 1100 0 28 #[131, 154, 187, 210, 223, 246, 299, 352, 375, 388, 401, 424, 447, 460, 483, 516, 549, 582, 625, 658, 681, 756, 769, 782, 835, 888, 931, 954, 1037], 131) := by decide +kernel
theorem dL_law_164 : decode cL_law 164 = .ok (.aload_n 1, 1) := by decide +kernel
theorem dL_law_165 : decode cL_law 165 = .ok (.aload_n 0, 1) := by decide +kernel
theorem dL_law_166 : decode cL_law 166 = .ok (.iload_n 3, 1) := by decide +kernel
theorem dL_law_167 : decode cL_law 167 = .ok (.iconst 1, 1) := by decide +kernel
theorem dL_law_168 : decode cL_law 168 = .ok (.iadd, 1) := by decide +kernel
theorem dL_law_169 : decode cL_law 169 = .ok (.iaload, 1) := by decide +kernel
theorem dL_law_170 : decode cL_law 170 = .ok (.invokevirtual 13, 3) := by decide +kernel
theorem dL_law_173 : decode cL_law 173 = .ok (.aload_n 2, 1) := by decide +kernel
theorem dL_law_174 : decode cL_law 174 = .ok (.aload_n 0, 1) := by decide +kernel
theorem dL_law_175 : decode cL_law 175 = .ok (.iload_n 3, 1) := by decide +kernel
theorem dL_law_176 : decode cL_law 176 = .ok (.iconst 1, 1) := by decide +kernel
theorem dL_law_177 : decode cL_law 177 = .ok (.iadd, 1) := by decide +kernel
theorem dL_law_178 : decode cL_law 178 = .ok (.iaload, 1) := by decide +kernel
theorem dL_law_179 : decode cL_law 179 = .ok (.invokevirtual 17, 3) := by decide +kernel
theorem dL_law_182 : decode cL_law 182 = .ok (.if_icmp .eq 951, 3) := by decide +kernel
theorem dL_law_185 : decode cL_law 185 = .ok (.iconst 0, 1) := by decide +kernel
theorem dL_law_186 : decode cL_law 186 = .ok (.ireturn, 1) := by decide +kernel
theorem dL_law_187 : decode cL_law 187 = .ok (.aload_n 1, 1) := by decide +kernel
theorem dL_law_188 : decode cL_law 188 = .ok (.aload_n 0, 1) := by decide +kernel
theorem dL_law_189 : decode cL_law 189 = .ok (.iload_n 3, 1) := by decide +kernel
theorem dL_law_190 : decode cL_law 190 = .ok (.iconst 1, 1) := by decide +kernel
theorem dL_law_191 : decode cL_law 191 = .ok (.iadd, 1) := by decide +kernel
theorem dL_law_192 : decode cL_law 192 = .ok (.iaload, 1) := by decide +kernel
theorem dL_law_193 : decode cL_law 193 = .ok (.aload_n 0, 1) := by decide +kernel
theorem dL_law_194 : decode cL_law 194 = .ok (.iload_n 3, 1) := by decide +kernel
theorem dL_law_195 : decode cL_law 195 = .ok (.iconst 2, 1) := by decide +kernel
theorem dL_law_196 : decode cL_law 196 = .ok (.iadd, 1) := by decide +kernel
theorem dL_law_197 : decode cL_law 197 = .ok (.iaload, 1) := by decide +kernel
theorem dL_law_198 : decode cL_law 198 = .ok (.invokevirtual 18, 3) := by decide +kernel
theorem dL_law_201 : decode cL_law 201 = .ok (.aload_n 2, 1) := by decide +kernel
theorem dL_law_202 : decode cL_law 202 = .ok (.aload_n 0, 1) := by decide +kernel
theorem dL_law_203 : decode cL_law 203 = .ok (.iload_n 3, 1) := by decide +kernel
theorem dL_law_204 : decode cL_law 204 = .ok (.iconst 1, 1) := by decide +kernel
theorem dL_law_205 : decode cL_law 205 = .ok (.iadd, 1) := by decide +kernel
theorem dL_law_206 : decode cL_law 206 = .ok (.iaload, 1) := by decide +kernel
theorem dL_law_207 : decode cL_law 207 = .ok (.aload_n 0, 1) := by decide +kernel
theorem dL_law_208 : decode cL_law 208 = .ok (.iload_n 3, 1) := by decide +kernel
theorem dL_law_209 : decode cL_law 209 = .ok (.iconst 2, 1) := by decide +kernel
theorem dL_law_210 : decode cL_law 210 = .ok (.iadd, 1) := by decide +kernel
theorem dL_law_211 : decode cL_law 211 = .ok (.iaload, 1) := by decide +kernel
theorem dL_law_212 : decode cL_law 212 = .ok (.invokevirtual 22, 3) := by decide +kernel
theorem dL_law_215 : decode cL_law 215 = .ok (.if_icmp .eq 918, 3) := by decide +kernel
theorem dL_law_218 : decode cL_law 218 = .ok (.iconst 0, 1) := by decide +kernel
theorem dL_law_219 : decode cL_law 219 = .ok (.ireturn, 1) := by decide +kernel
theorem dL_law_220 : decode cL_law 220 = .ok (.aload_n 1, 1) := by decide +kernel
theorem dL_law_221 : decode cL_law 221 = .ok (.aload_n 0, 1) := by decide +kernel
theorem dL_law_222 : decode cL_law 222 = .ok (.iload_n 3, 1) := by decide +kernel
theorem dL_law_223 : decode cL_law 223 = .ok (.iconst 1, 1) := by decide +kernel
theorem dL_law_224 : decode cL_law 224 = .ok (.iadd, 1) := by decide +kernel
theorem dL_law_225 : decode cL_law 225 = .ok (.iaload, 1) := by decide +kernel
theorem dL_law_226 : decode cL_law 226 = .ok (.invokevirtual 23, 3) := by decide +kernel
theorem dL_law_229 : decode cL_law 229 = .ok (.aload_n 2, 1) := by decide +kernel
theorem dL_law_230 : decode cL_law 230 = .ok (.aload_n 0, 1) := by decide +kernel
theorem dL_law_231 : decode cL_law 231 = .ok (.iload_n 3, 1) := by decide +kernel
theorem dL_law_232 : decode cL_law 232 = .ok (.iconst 1, 1) := by decide +kernel
theorem dL_law_233 : decode cL_law 233 = .ok (.iadd, 1) := by decide +kernel
theorem dL_law_234 : decode cL_law 234 = .ok (.iaload, 1) := by decide +kernel
theorem dL_law_235 : decode cL_law 235 = .ok (.invokevirtual 26, 3) := by decide +kernel
theorem dL_law_238 : decode cL_law 238 = .ok (.if_icmp .eq 895, 3) := by decide +kernel
theorem dL_law_241 : decode cL_law 241 = .ok (.iconst 0, 1) := by decide +kernel
theorem dL_law_242 : decode cL_law 242 = .ok (.ireturn, 1) := by decide +kernel
theorem dL_law_243 : decode cL_law 243 = .ok (.aload_n 1, 1) := by decide +kernel
theorem dL_law_244 : decode cL_law 244 = .ok (.invokevirtual 27, 3) := by decide +kernel
theorem dL_law_247 : decode cL_law 247 = .ok (.aload_n 2, 1) := by decide +kernel
theorem dL_law_248 : decode cL_law 248 = .ok (.invokevirtual 31, 3) := by decide +kernel
theorem dL_law_251 : decode cL_law 251 = .ok (.if_icmp .eq 882, 3) := by decide +kernel
theorem dL_law_254 : decode cL_law 254 = .ok (.iconst 0, 1) := by decide +kernel
theorem dL_law_255 : decode cL_law 255 = .ok (.ireturn, 1) := by decide +kernel
theorem dL_law_256 : decode cL_law 256 = .ok (.aload_n 1, 1) := by decide +kernel
theorem dL_law_257 : decode cL_law 257 = .ok (.aload_n 0, 1) := by decide +kernel
theorem dL_law_258 : decode cL_law 258 = .ok (.iload_n 3, 1) := by decide +kernel
theorem dL_law_259 : decode cL_law 259 = .ok (.iconst 1, 1) := by decide +kernel
theorem dL_law_260 : decode cL_law 260 = .ok (.iadd, 1) := by decide +kernel
theorem dL_law_261 : decode cL_law 261 = .ok (.iaload, 1) := by decide +kernel
theorem dL_law_262 : decode cL_law 262 = .ok (.invokevirtual 32, 3) := by decide +kernel
theorem dL_law_265 : decode cL_law 265 = .ok (.aload_n 2, 1) := by decide +kernel
theorem dL_law_266 : decode cL_law 266 = .ok (.aload_n 0, 1) := by decide +kernel
theorem dL_law_267 : decode cL_law 267 = .ok (.iload_n 3, 1) := by decide +kernel
theorem dL_law_268 : decode cL_law 268 = .ok (.iconst 1, 1) := by decide +kernel
theorem dL_law_269 : decode cL_law 269 = .ok (.iadd, 1) := by decide +kernel
theorem dL_law_270 : decode cL_law 270 = .ok (.iaload, 1) := by decide +kernel
theorem dL_law_271 : decode cL_law 271 = .ok (.invokevirtual 35, 3) := by decide +kernel
theorem dL_law_274 : decode cL_law 274 = .ok (.if_icmp .eq 859, 3) := by decide +kernel
theorem dL_law_277 : decode cL_law 277 = .ok (.iconst 0, 1) := by decide +kernel
theorem dL_law_278 : decode cL_law 278 = .ok (.ireturn, 1) := by decide +kernel
theorem dL_law_279 : decode cL_law 279 = .ok (.aload_n 1, 1) := by decide +kernel
theorem dL_law_280 : decode cL_law 280 = .ok (.aload_n 0, 1) := by decide +kernel
theorem dL_law_281 : decode cL_law 281 = .ok (.iload_n 3, 1) := by decide +kernel
theorem dL_law_282 : decode cL_law 282 = .ok (.iconst 1, 1) := by decide +kernel
theorem dL_law_283 : decode cL_law 283 = .ok (.iadd, 1) := by decide +kernel
theorem dL_law_284 : decode cL_law 284 = .ok (.iaload, 1) := by decide +kernel
theorem dL_law_285 : decode cL_law 285 = .ok (.aload_n 0, 1) := by decide +kernel
theorem dL_law_286 : decode cL_law 286 = .ok (.iload_n 3, 1) := by decide +kernel
theorem dL_law_287 : decode cL_law 287 = .ok (.iconst 2, 1) := by decide +kernel
theorem dL_law_288 : decode cL_law 288 = .ok (.iadd, 1) := by decide +kernel
theorem dL_law_289 : decode cL_law 289 = .ok (.iaload, 1) := by decide +kernel
theorem dL_law_290 : decode cL_law 290 = .ok (.aload_n 0, 1) := by decide +kernel
theorem dL_law_291 : decode cL_law 291 = .ok (.iload_n 3, 1) := by decide +kernel
theorem dL_law_292 : decode cL_law 292 = .ok (.iconst 3, 1) := by decide +kernel
theorem dL_law_293 : decode cL_law 293 = .ok (.iadd, 1) := by decide +kernel
theorem dL_law_294 : decode cL_law 294 = .ok (.iaload, 1) := by decide +kernel
theorem dL_law_295 : decode cL_law 295 = .ok (.aload_n 0, 1) := by decide +kernel
theorem dL_law_296 : decode cL_law 296 = .ok (.iload_n 3, 1) := by decide +kernel
theorem dL_law_297 : decode cL_law 297 = .ok (.iconst 4, 1) := by decide +kernel
theorem dL_law_298 : decode cL_law 298 = .ok (.iadd, 1) := by decide +kernel
theorem dL_law_299 : decode cL_law 299 = .ok (.iaload, 1) := by decide +kernel
theorem dL_law_300 : decode cL_law 300 = .ok (.invokevirtual 36, 3) := by decide +kernel
theorem dL_law_303 : decode cL_law 303 = .ok (.aload_n 2, 1) := by decide +kernel
theorem dL_law_304 : decode cL_law 304 = .ok (.aload_n 0, 1) := by decide +kernel
theorem dL_law_305 : decode cL_law 305 = .ok (.iload_n 3, 1) := by decide +kernel
theorem dL_law_306 : decode cL_law 306 = .ok (.iconst 1, 1) := by decide +kernel
theorem dL_law_307 : decode cL_law 307 = .ok (.iadd, 1) := by decide +kernel
theorem dL_law_308 : decode cL_law 308 = .ok (.iaload, 1) := by decide +kernel
theorem dL_law_309 : decode cL_law 309 = .ok (.aload_n 0, 1) := by decide +kernel
theorem dL_law_310 : decode cL_law 310 = .ok (.iload_n 3, 1) := by decide +kernel
theorem dL_law_311 : decode cL_law 311 = .ok (.iconst 2, 1) := by decide +kernel
theorem dL_law_312 : decode cL_law 312 = .ok (.iadd, 1) := by decide +kernel
theorem dL_law_313 : decode cL_law 313 = .ok (.iaload, 1) := by decide +kernel
theorem dL_law_314 : decode cL_law 314 = .ok (.aload_n 0, 1) := by decide +kernel
theorem dL_law_315 : decode cL_law 315 = .ok (.iload_n 3, 1) := by decide +kernel
theorem dL_law_316 : decode cL_law 316 = .ok (.iconst 3, 1) := by decide +kernel
theorem dL_law_317 : decode cL_law 317 = .ok (.iadd, 1) := by decide +kernel
theorem dL_law_318 : decode cL_law 318 = .ok (.iaload, 1) := by decide +kernel
theorem dL_law_319 : decode cL_law 319 = .ok (.aload_n 0, 1) := by decide +kernel
theorem dL_law_320 : decode cL_law 320 = .ok (.iload_n 3, 1) := by decide +kernel
theorem dL_law_321 : decode cL_law 321 = .ok (.iconst 4, 1) := by decide +kernel
theorem dL_law_322 : decode cL_law 322 = .ok (.iadd, 1) := by decide +kernel
theorem dL_law_323 : decode cL_law 323 = .ok (.iaload, 1) := by decide +kernel
theorem dL_law_324 : decode cL_law 324 = .ok (.invokevirtual 40, 3) := by decide +kernel
theorem dL_law_327 : decode cL_law 327 = .ok (.if_icmp .eq 806, 3) := by decide +kernel
theorem dL_law_330 : decode cL_law 330 = .ok (.iconst 0, 1) := by decide +kernel
theorem dL_law_331 : decode cL_law 331 = .ok (.ireturn, 1) := by decide +kernel
theorem dL_law_332 : decode cL_law 332 = .ok (.aload_n 1, 1) := by decide +kernel
theorem dL_law_333 : decode cL_law 333 = .ok (.aload_n 0, 1) := by decide +kernel
theorem dL_law_334 : decode cL_law 334 = .ok (.iload_n 3, 1) := by decide +kernel
theorem dL_law_335 : decode cL_law 335 = .ok (.iconst 1, 1) := by decide +kernel
theorem dL_law_336 : decode cL_law 336 = .ok (.iadd, 1) := by decide +kernel
theorem dL_law_337 : decode cL_law 337 = .ok (.iaload, 1) := by decide +kernel
theorem dL_law_338 : decode cL_law 338 = .ok (.aload_n 0, 1) := by decide +kernel
theorem dL_law_339 : decode cL_law 339 = .ok (.iload_n 3, 1) := by decide +kernel
theorem dL_law_340 : decode cL_law 340 = .ok (.iconst 2, 1) := by decide +kernel
theorem dL_law_341 : decode cL_law 341 = .ok (.iadd, 1) := by decide +kernel
theorem dL_law_342 : decode cL_law 342 = .ok (.iaload, 1) := by decide +kernel
theorem dL_law_343 : decode cL_law 343 = .ok (.aload_n 0, 1) := by decide +kernel
theorem dL_law_344 : decode cL_law 344 = .ok (.iload_n 3, 1) := by decide +kernel
theorem dL_law_345 : decode cL_law 345 = .ok (.iconst 3, 1) := by decide +kernel
theorem dL_law_346 : decode cL_law 346 = .ok (.iadd, 1) := by decide +kernel
theorem dL_law_347 : decode cL_law 347 = .ok (.iaload, 1) := by decide +kernel
theorem dL_law_348 : decode cL_law 348 = .ok (.aload_n 0, 1) := by decide +kernel
theorem dL_law_349 : decode cL_law 349 = .ok (.iload_n 3, 1) := by decide +kernel
theorem dL_law_350 : decode cL_law 350 = .ok (.iconst 4, 1) := by decide +kernel
theorem dL_law_351 : decode cL_law 351 = .ok (.iadd, 1) := by decide +kernel
theorem dL_law_352 : decode cL_law 352 = .ok (.iaload, 1) := by decide +kernel
theorem dL_law_353 : decode cL_law 353 = .ok (.invokevirtual 41, 3) := by decide +kernel
theorem dL_law_356 : decode cL_law 356 = .ok (.aload_n 2, 1) := by decide +kernel
theorem dL_law_357 : decode cL_law 357 = .ok (.aload_n 0, 1) := by decide +kernel
theorem dL_law_358 : decode cL_law 358 = .ok (.iload_n 3, 1) := by decide +kernel
theorem dL_law_359 : decode cL_law 359 = .ok (.iconst 1, 1) := by decide +kernel
theorem dL_law_360 : decode cL_law 360 = .ok (.iadd, 1) := by decide +kernel
theorem dL_law_361 : decode cL_law 361 = .ok (.iaload, 1) := by decide +kernel
theorem dL_law_362 : decode cL_law 362 = .ok (.aload_n 0, 1) := by decide +kernel
theorem dL_law_363 : decode cL_law 363 = .ok (.iload_n 3, 1) := by decide +kernel
theorem dL_law_364 : decode cL_law 364 = .ok (.iconst 2, 1) := by decide +kernel
theorem dL_law_365 : decode cL_law 365 = .ok (.iadd, 1) := by decide +kernel
theorem dL_law_366 : decode cL_law 366 = .ok (.iaload, 1) := by decide +kernel
theorem dL_law_367 : decode cL_law 367 = .ok (.aload_n 0, 1) := by decide +kernel
theorem dL_law_368 : decode cL_law 368 = .ok (.iload_n 3, 1) := by decide +kernel
theorem dL_law_369 : decode cL_law 369 = .ok (.iconst 3, 1) := by decide +kernel
theorem dL_law_370 : decode cL_law 370 = .ok (.iadd, 1) := by decide +kernel
theorem dL_law_371 : decode cL_law 371 = .ok (.iaload, 1) := by decide +kernel
theorem dL_law_372 : decode cL_law 372 = .ok (.aload_n 0, 1) := by decide +kernel
theorem dL_law_373 : decode cL_law 373 = .ok (.iload_n 3, 1) := by decide +kernel
theorem dL_law_374 : decode cL_law 374 = .ok (.iconst 4, 1) := by decide +kernel
theorem dL_law_375 : decode cL_law 375 = .ok (.iadd, 1) := by decide +kernel
theorem dL_law_376 : decode cL_law 376 = .ok (.iaload, 1) := by decide +kernel
theorem dL_law_377 : decode cL_law 377 = .ok (.invokevirtual 44, 3) := by decide +kernel
theorem dL_law_380 : decode cL_law 380 = .ok (.if_icmp .eq 753, 3) := by decide +kernel
theorem dL_law_383 : decode cL_law 383 = .ok (.iconst 0, 1) := by decide +kernel
theorem dL_law_384 : decode cL_law 384 = .ok (.ireturn, 1) := by decide +kernel
theorem dL_law_385 : decode cL_law 385 = .ok (.aload_n 1, 1) := by decide +kernel
theorem dL_law_386 : decode cL_law 386 = .ok (.aload_n 0, 1) := by decide +kernel
theorem dL_law_387 : decode cL_law 387 = .ok (.iload_n 3, 1) := by decide +kernel
theorem dL_law_388 : decode cL_law 388 = .ok (.iconst 1, 1) := by decide +kernel
theorem dL_law_389 : decode cL_law 389 = .ok (.iadd, 1) := by decide +kernel
theorem dL_law_390 : decode cL_law 390 = .ok (.iaload, 1) := by decide +kernel
theorem dL_law_391 : decode cL_law 391 = .ok (.invokevirtual 45, 3) := by decide +kernel
theorem dL_law_394 : decode cL_law 394 = .ok (.aload_n 2, 1) := by decide +kernel
theorem dL_law_395 : decode cL_law 395 = .ok (.aload_n 0, 1) := by decide +kernel
theorem dL_law_396 : decode cL_law 396 = .ok (.iload_n 3, 1) := by decide +kernel
theorem dL_law_397 : decode cL_law 397 = .ok (.iconst 1, 1) := by decide +kernel
theorem dL_law_398 : decode cL_law 398 = .ok (.iadd, 1) := by decide +kernel
theorem dL_law_399 : decode cL_law 399 = .ok (.iaload, 1) := by decide +kernel
theorem dL_law_400 : decode cL_law 400 = .ok (.invokevirtual 48, 3) := by decide +kernel
theorem dL_law_403 : decode cL_law 403 = .ok (.if_icmp .eq 730, 3) := by decide +kernel
theorem dL_law_406 : decode cL_law 406 = .ok (.iconst 0, 1) := by decide +kernel
theorem dL_law_407 : decode cL_law 407 = .ok (.ireturn, 1) := by decide +kernel
theorem dL_law_408 : decode cL_law 408 = .ok (.aload_n 1, 1) := by decide +kernel
theorem dL_law_409 : decode cL_law 409 = .ok (.invokevirtual 49, 3) := by decide +kernel
theorem dL_law_412 : decode cL_law 412 = .ok (.aload_n 2, 1) := by decide +kernel
theorem dL_law_413 : decode cL_law 413 = .ok (.invokevirtual 52, 3) := by decide +kernel
theorem dL_law_416 : decode cL_law 416 = .ok (.if_icmp .eq 717, 3) := by decide +kernel
theorem dL_law_419 : decode cL_law 419 = .ok (.iconst 0, 1) := by decide +kernel
theorem dL_law_420 : decode cL_law 420 = .ok (.ireturn, 1) := by decide +kernel
theorem dL_law_421 : decode cL_law 421 = .ok (.aload_n 1, 1) := by decide +kernel
theorem dL_law_422 : decode cL_law 422 = .ok (.invokevirtual 53, 3) := by decide +kernel
theorem dL_law_425 : decode cL_law 425 = .ok (.aload_n 2, 1) := by decide +kernel
theorem dL_law_426 : decode cL_law 426 = .ok (.invokevirtual 56, 3) := by decide +kernel
theorem dL_law_429 : decode cL_law 429 = .ok (.if_icmp .eq 704, 3) := by decide +kernel
theorem dL_law_432 : decode cL_law 432 = .ok (.iconst 0, 1) := by decide +kernel
theorem dL_law_433 : decode cL_law 433 = .ok (.ireturn, 1) := by decide +kernel
theorem dL_law_434 : decode cL_law 434 = .ok (.aload_n 1, 1) := by decide +kernel
theorem dL_law_435 : decode cL_law 435 = .ok (.aload_n 0, 1) := by decide +kernel
theorem dL_law_436 : decode cL_law 436 = .ok (.iload_n 3, 1) := by decide +kernel
theorem dL_law_437 : decode cL_law 437 = .ok (.iconst 1, 1) := by decide +kernel
theorem dL_law_438 : decode cL_law 438 = .ok (.iadd, 1) := by decide +kernel
theorem dL_law_439 : decode cL_law 439 = .ok (.iaload, 1) := by decide +kernel
theorem dL_law_440 : decode cL_law 440 = .ok (.invokevirtual 57, 3) := by decide +kernel
theorem dL_law_443 : decode cL_law 443 = .ok (.aload_n 2, 1) := by decide +kernel
theorem dL_law_444 : decode cL_law 444 = .ok (.aload_n 0, 1) := by decide +kernel
theorem dL_law_445 : decode cL_law 445 = .ok (.iload_n 3, 1) := by decide +kernel
theorem dL_law_446 : decode cL_law 446 = .ok (.iconst 1, 1) := by decide +kernel
theorem dL_law_447 : decode cL_law 447 = .ok (.iadd, 1) := by decide +kernel
theorem dL_law_448 : decode cL_law 448 = .ok (.iaload, 1) := by decide +kernel
theorem dL_law_449 : decode cL_law 449 = .ok (.invokevirtual 60, 3) := by decide +kernel
theorem dL_law_452 : decode cL_law 452 = .ok (.if_icmp .eq 681, 3) := by decide +kernel
theorem dL_law_455 : decode cL_law 455 = .ok (.iconst 0, 1) := by decide +kernel
theorem dL_law_456 : decode cL_law 456 = .ok (.ireturn, 1) := by decide +kernel
theorem dL_law_457 : decode cL_law 457 = .ok (.aload_n 1, 1) := by decide +kernel
theorem dL_law_458 : decode cL_law 458 = .ok (.aload_n 0, 1) := by decide +kernel
theorem dL_law_459 : decode cL_law 459 = .ok (.iload_n 3, 1) := by decide +kernel
theorem dL_law_460 : decode cL_law 460 = .ok (.iconst 1, 1) := by decide +kernel
theorem dL_law_461 : decode cL_law 461 = .ok (.iadd, 1) := by decide +kernel
theorem dL_law_462 : decode cL_law 462 = .ok (.iaload, 1) := by decide +kernel
theorem dL_law_463 : decode cL_law 463 = .ok (.invokevirtual 61, 3) := by decide +kernel
theorem dL_law_466 : decode cL_law 466 = .ok (.aload_n 2, 1) := by decide +kernel
theorem dL_law_467 : decode cL_law 467 = .ok (.aload_n 0, 1) := by decide +kernel
theorem dL_law_468 : decode cL_law 468 = .ok (.iload_n 3, 1) := by decide +kernel
theorem dL_law_469 : decode cL_law 469 = .ok (.iconst 1, 1) := by decide +kernel
theorem dL_law_470 : decode cL_law 470 = .ok (.iadd, 1) := by decide +kernel
theorem dL_law_471 : decode cL_law 471 = .ok (.iaload, 1) := by decide +kernel
theorem dL_law_472 : decode cL_law 472 = .ok (.invokevirtual 64, 3) := by decide +kernel
theorem dL_law_475 : decode cL_law 475 = .ok (.if_icmp .eq 658, 3) := by decide +kernel
theorem dL_law_478 : decode cL_law 478 = .ok (.iconst 0, 1) := by decide +kernel
theorem dL_law_479 : decode cL_law 479 = .ok (.ireturn, 1) := by decide +kernel
theorem dL_law_480 : decode cL_law 480 = .ok (.aload_n 1, 1) := by decide +kernel
theorem dL_law_481 : decode cL_law 481 = .ok (.invokevirtual 65, 3) := by decide +kernel
theorem dL_law_484 : decode cL_law 484 = .ok (.aload_n 2, 1) := by decide +kernel
theorem dL_law_485 : decode cL_law 485 = .ok (.invokevirtual 68, 3) := by decide +kernel
theorem dL_law_488 : decode cL_law 488 = .ok (.if_icmp .eq 645, 3) := by decide +kernel
theorem dL_law_491 : decode cL_law 491 = .ok (.iconst 0, 1) := by decide +kernel
theorem dL_law_492 : decode cL_law 492 = .ok (.ireturn, 1) := by decide +kernel
theorem dL_law_493 : decode cL_law 493 = .ok (.aload_n 1, 1) := by decide +kernel
theorem dL_law_494 : decode cL_law 494 = .ok (.aload_n 0, 1) := by decide +kernel
theorem dL_law_495 : decode cL_law 495 = .ok (.iload_n 3, 1) := by decide +kernel
theorem dL_law_496 : decode cL_law 496 = .ok (.iconst 1, 1) := by decide +kernel
theorem dL_law_497 : decode cL_law 497 = .ok (.iadd, 1) := by decide +kernel
theorem dL_law_498 : decode cL_law 498 = .ok (.iaload, 1) := by decide +kernel
theorem dL_law_499 : decode cL_law 499 = .ok (.invokevirtual 69, 3) := by decide +kernel
theorem dL_law_502 : decode cL_law 502 = .ok (.aload_n 2, 1) := by decide +kernel
theorem dL_law_503 : decode cL_law 503 = .ok (.aload_n 0, 1) := by decide +kernel
theorem dL_law_504 : decode cL_law 504 = .ok (.iload_n 3, 1) := by decide +kernel
theorem dL_law_505 : decode cL_law 505 = .ok (.iconst 1, 1) := by decide +kernel
theorem dL_law_506 : decode cL_law 506 = .ok (.iadd, 1) := by decide +kernel
theorem dL_law_507 : decode cL_law 507 = .ok (.iaload, 1) := by decide +kernel
theorem dL_law_508 : decode cL_law 508 = .ok (.invokevirtual 72, 3) := by decide +kernel
theorem dL_law_511 : decode cL_law 511 = .ok (.if_icmp .eq 622, 3) := by decide +kernel
theorem dL_law_514 : decode cL_law 514 = .ok (.iconst 0, 1) := by decide +kernel
theorem dL_law_515 : decode cL_law 515 = .ok (.ireturn, 1) := by decide +kernel
theorem dL_law_516 : decode cL_law 516 = .ok (.aload_n 1, 1) := by decide +kernel
theorem dL_law_517 : decode cL_law 517 = .ok (.aload_n 0, 1) := by decide +kernel
theorem dL_law_518 : decode cL_law 518 = .ok (.iload_n 3, 1) := by decide +kernel
theorem dL_law_519 : decode cL_law 519 = .ok (.iconst 1, 1) := by decide +kernel
theorem dL_law_520 : decode cL_law 520 = .ok (.iadd, 1) := by decide +kernel
theorem dL_law_521 : decode cL_law 521 = .ok (.iaload, 1) := by decide +kernel
theorem dL_law_522 : decode cL_law 522 = .ok (.aload_n 0, 1) := by decide +kernel
theorem dL_law_523 : decode cL_law 523 = .ok (.iload_n 3, 1) := by decide +kernel
theorem dL_law_524 : decode cL_law 524 = .ok (.iconst 2, 1) := by decide +kernel
theorem dL_law_525 : decode cL_law 525 = .ok (.iadd, 1) := by decide +kernel
theorem dL_law_526 : decode cL_law 526 = .ok (.iaload, 1) := by decide +kernel
theorem dL_law_527 : decode cL_law 527 = .ok (.invokevirtual 73, 3) := by decide +kernel
theorem dL_law_530 : decode cL_law 530 = .ok (.aload_n 2, 1) := by decide +kernel
theorem dL_law_531 : decode cL_law 531 = .ok (.aload_n 0, 1) := by decide +kernel
theorem dL_law_532 : decode cL_law 532 = .ok (.iload_n 3, 1) := by decide +kernel
theorem dL_law_533 : decode cL_law 533 = .ok (.iconst 1, 1) := by decide +kernel
theorem dL_law_534 : decode cL_law 534 = .ok (.iadd, 1) := by decide +kernel
theorem dL_law_535 : decode cL_law 535 = .ok (.iaload, 1) := by decide +kernel
theorem dL_law_536 : decode cL_law 536 = .ok (.aload_n 0, 1) := by decide +kernel
theorem dL_law_537 : decode cL_law 537 = .ok (.iload_n 3, 1) := by decide +kernel
theorem dL_law_538 : decode cL_law 538 = .ok (.iconst 2, 1) := by decide +kernel
theorem dL_law_539 : decode cL_law 539 = .ok (.iadd, 1) := by decide +kernel
theorem dL_law_540 : decode cL_law 540 = .ok (.iaload, 1) := by decide +kernel
theorem dL_law_541 : decode cL_law 541 = .ok (.invokevirtual 76, 3) := by decide +kernel
theorem dL_law_544 : decode cL_law 544 = .ok (.if_icmp .eq 589, 3) := by decide +kernel
theorem dL_law_547 : decode cL_law 547 = .ok (.iconst 0, 1) := by decide +kernel
theorem dL_law_548 : decode cL_law 548 = .ok (.ireturn, 1) := by decide +kernel
theorem dL_law_549 : decode cL_law 549 = .ok (.aload_n 1, 1) := by decide +kernel
theorem dL_law_550 : decode cL_law 550 = .ok (.aload_n 0, 1) := by decide +kernel
theorem dL_law_551 : decode cL_law 551 = .ok (.iload_n 3, 1) := by decide +kernel
theorem dL_law_552 : decode cL_law 552 = .ok (.iconst 1, 1) := by decide +kernel
theorem dL_law_553 : decode cL_law 553 = .ok (.iadd, 1) := by decide +kernel
theorem dL_law_554 : decode cL_law 554 = .ok (.iaload, 1) := by decide +kernel
theorem dL_law_555 : decode cL_law 555 = .ok (.aload_n 0, 1) := by decide +kernel
theorem dL_law_556 : decode cL_law 556 = .ok (.iload_n 3, 1) := by decide +kernel
theorem dL_law_557 : decode cL_law 557 = .ok (.iconst 2, 1) := by decide +kernel
theorem dL_law_558 : decode cL_law 558 = .ok (.iadd, 1) := by decide +kernel
theorem dL_law_559 : decode cL_law 559 = .ok (.iaload, 1) := by decide +kernel
theorem dL_law_560 : decode cL_law 560 = .ok (.invokevirtual 77, 3) := by decide +kernel
theorem dL_law_563 : decode cL_law 563 = .ok (.aload_n 2, 1) := by decide +kernel
theorem dL_law_564 : decode cL_law 564 = .ok (.aload_n 0, 1) := by decide +kernel
theorem dL_law_565 : decode cL_law 565 = .ok (.iload_n 3, 1) := by decide +kernel
theorem dL_law_566 : decode cL_law 566 = .ok (.iconst 1, 1) := by decide +kernel
theorem dL_law_567 : decode cL_law 567 = .ok (.iadd, 1) := by decide +kernel
theorem dL_law_568 : decode cL_law 568 = .ok (.iaload, 1) := by decide +kernel
theorem dL_law_569 : decode cL_law 569 = .ok (.aload_n 0, 1) := by decide +kernel
theorem dL_law_570 : decode cL_law 570 = .ok (.iload_n 3, 1) := by decide +kernel
theorem dL_law_571 : decode cL_law 571 = .ok (.iconst 2, 1) := by decide +kernel
theorem dL_law_572 : decode cL_law 572 = .ok (.iadd, 1) := by decide +kernel
theorem dL_law_573 : decode cL_law 573 = .ok (.iaload, 1) := by decide +kernel
theorem dL_law_574 : decode cL_law 574 = .ok (.invokevirtual 80, 3) := by decide +kernel
theorem dL_law_577 : decode cL_law 577 = .ok (.if_icmp .eq 556, 3) := by decide +kernel
theorem dL_law_580 : decode cL_law 580 = .ok (.iconst 0, 1) := by decide +kernel
theorem dL_law_581 : decode cL_law 581 = .ok (.ireturn, 1) := by decide +kernel
theorem dL_law_582 : decode cL_law 582 = .ok (.aload_n 1, 1) := by decide +kernel
theorem dL_law_583 : decode cL_law 583 = .ok (.aload_n 0, 1) := by decide +kernel
theorem dL_law_584 : decode cL_law 584 = .ok (.iload_n 3, 1) := by decide +kernel
theorem dL_law_585 : decode cL_law 585 = .ok (.iconst 1, 1) := by decide +kernel
theorem dL_law_586 : decode cL_law 586 = .ok (.iadd, 1) := by decide +kernel
theorem dL_law_587 : decode cL_law 587 = .ok (.iaload, 1) := by decide +kernel
theorem dL_law_588 : decode cL_law 588 = .ok (.aload_n 0, 1) := by decide +kernel
theorem dL_law_589 : decode cL_law 589 = .ok (.iload_n 3, 1) := by decide +kernel
theorem dL_law_590 : decode cL_law 590 = .ok (.iconst 2, 1) := by decide +kernel
theorem dL_law_591 : decode cL_law 591 = .ok (.iadd, 1) := by decide +kernel
theorem dL_law_592 : decode cL_law 592 = .ok (.iaload, 1) := by decide +kernel
theorem dL_law_593 : decode cL_law 593 = .ok (.invokevirtual 81, 3) := by decide +kernel
theorem dL_law_596 : decode cL_law 596 = .ok (.aload_n 2, 1) := by decide +kernel
theorem dL_law_597 : decode cL_law 597 = .ok (.aload_n 0, 1) := by decide +kernel
theorem dL_law_598 : decode cL_law 598 = .ok (.iload_n 3, 1) := by decide +kernel
theorem dL_law_599 : decode cL_law 599 = .ok (.iconst 1, 1) := by decide +kernel
theorem dL_law_600 : decode cL_law 600 = .ok (.iadd, 1) := by decide +kernel
theorem dL_law_601 : decode cL_law 601 = .ok (.iaload, 1) := by decide +kernel
theorem dL_law_602 : decode cL_law 602 = .ok (.aload_n 0, 1) := by decide +kernel
theorem dL_law_603 : decode cL_law 603 = .ok (.iload_n 3, 1) := by decide +kernel
theorem dL_law_604 : decode cL_law 604 = .ok (.iconst 2, 1) := by decide +kernel
theorem dL_law_605 : decode cL_law 605 = .ok (.iadd, 1) := by decide +kernel
theorem dL_law_606 : decode cL_law 606 = .ok (.iaload, 1) := by decide +kernel
theorem dL_law_607 : decode cL_law 607 = .ok (.invokevirtual 84, 3) := by decide +kernel
theorem dL_law_610 : decode cL_law 610 = .ok (.if_icmp .eq 523, 3) := by decide +kernel
theorem dL_law_613 : decode cL_law 613 = .ok (.iconst 0, 1) := by decide +kernel
theorem dL_law_614 : decode cL_law 614 = .ok (.ireturn, 1) := by decide +kernel
theorem dL_law_615 : decode cL_law 615 = .ok (.aload_n 1, 1) := by decide +kernel
theorem dL_law_616 : decode cL_law 616 = .ok (.aload_n 0, 1) := by decide +kernel
theorem dL_law_617 : decode cL_law 617 = .ok (.iload_n 3, 1) := by decide +kernel
theorem dL_law_618 : decode cL_law 618 = .ok (.iconst 1, 1) := by decide +kernel
theorem dL_law_619 : decode cL_law 619 = .ok (.iadd, 1) := by decide +kernel
theorem dL_law_620 : decode cL_law 620 = .ok (.iaload, 1) := by decide +kernel
theorem dL_law_621 : decode cL_law 621 = .ok (.aload_n 0, 1) := by decide +kernel
theorem dL_law_622 : decode cL_law 622 = .ok (.iload_n 3, 1) := by decide +kernel
theorem dL_law_623 : decode cL_law 623 = .ok (.iconst 2, 1) := by decide +kernel
theorem dL_law_624 : decode cL_law 624 = .ok (.iadd, 1) := by decide +kernel
theorem dL_law_625 : decode cL_law 625 = .ok (.iaload, 1) := by decide +kernel
theorem dL_law_626 : decode cL_law 626 = .ok (.aload_n 0, 1) := by decide +kernel
theorem dL_law_627 : decode cL_law 627 = .ok (.iload_n 3, 1) := by decide +kernel
theorem dL_law_628 : decode cL_law 628 = .ok (.iconst 3, 1) := by decide +kernel
theorem dL_law_629 : decode cL_law 629 = .ok (.iadd, 1) := by decide +kernel
theorem dL_law_630 : decode cL_law 630 = .ok (.iaload, 1) := by decide +kernel
theorem dL_law_631 : decode cL_law 631 = .ok (.invokevirtual 85, 3) := by decide +kernel
theorem dL_law_634 : decode cL_law 634 = .ok (.aload_n 2, 1) := by decide +kernel
theorem dL_law_635 : decode cL_law 635 = .ok (.aload_n 0, 1) := by decide +kernel
theorem dL_law_636 : decode cL_law 636 = .ok (.iload_n 3, 1) := by decide +kernel
theorem dL_law_637 : decode cL_law 637 = .ok (.iconst 1, 1) := by decide +kernel
theorem dL_law_638 : decode cL_law 638 = .ok (.iadd, 1) := by decide +kernel
theorem dL_law_639 : decode cL_law 639 = .ok (.iaload, 1) := by decide +kernel
theorem dL_law_640 : decode cL_law 640 = .ok (.aload_n 0, 1) := by decide +kernel
theorem dL_law_641 : decode cL_law 641 = .ok (.iload_n 3, 1) := by decide +kernel
theorem dL_law_642 : decode cL_law 642 = .ok (.iconst 2, 1) := by decide +kernel
theorem dL_law_643 : decode cL_law 643 = .ok (.iadd, 1) := by decide +kernel
theorem dL_law_644 : decode cL_law 644 = .ok (.iaload, 1) := by decide +kernel
theorem dL_law_645 : decode cL_law 645 = .ok (.aload_n 0, 1) := by decide +kernel
theorem dL_law_646 : decode cL_law 646 = .ok (.iload_n 3, 1) := by decide +kernel
theorem dL_law_647 : decode cL_law 647 = .ok (.iconst 3, 1) := by decide +kernel
theorem dL_law_648 : decode cL_law 648 = .ok (.iadd, 1) := by decide +kernel
theorem dL_law_649 : decode cL_law 649 = .ok (.iaload, 1) := by decide +kernel
theorem dL_law_650 : decode cL_law 650 = .ok (.invokevirtual 89, 3) := by decide +kernel
theorem dL_law_653 : decode cL_law 653 = .ok (.if_icmp .eq 480, 3) := by decide +kernel
theorem dL_law_656 : decode cL_law 656 = .ok (.iconst 0, 1) := by decide +kernel
theorem dL_law_657 : decode cL_law 657 = .ok (.ireturn, 1) := by decide +kernel
theorem dL_law_658 : decode cL_law 658 = .ok (.aload_n 1, 1) := by decide +kernel
theorem dL_law_659 : decode cL_law 659 = .ok (.aload_n 0, 1) := by decide +kernel
theorem dL_law_660 : decode cL_law 660 = .ok (.iload_n 3, 1) := by decide +kernel
theorem dL_law_661 : decode cL_law 661 = .ok (.iconst 1, 1) := by decide +kernel
theorem dL_law_662 : decode cL_law 662 = .ok (.iadd, 1) := by decide +kernel
theorem dL_law_663 : decode cL_law 663 = .ok (.iaload, 1) := by decide +kernel
theorem dL_law_664 : decode cL_law 664 = .ok (.aload_n 0, 1) := by decide +kernel
theorem dL_law_665 : decode cL_law 665 = .ok (.iload_n 3, 1) := by decide +kernel
theorem dL_law_666 : decode cL_law 666 = .ok (.iconst 2, 1) := by decide +kernel
theorem dL_law_667 : decode cL_law 667 = .ok (.iadd, 1) := by decide +kernel
theorem dL_law_668 : decode cL_law 668 = .ok (.iaload, 1) := by decide +kernel
theorem dL_law_669 : decode cL_law 669 = .ok (.invokevirtual 90, 3) := by decide +kernel
theorem dL_law_672 : decode cL_law 672 = .ok (.aload_n 2, 1) := by decide +kernel
theorem dL_law_673 : decode cL_law 673 = .ok (.aload_n 0, 1) := by decide +kernel
theorem dL_law_674 : decode cL_law 674 = .ok (.iload_n 3, 1) := by decide +kernel
theorem dL_law_675 : decode cL_law 675 = .ok (.iconst 1, 1) := by decide +kernel
theorem dL_law_676 : decode cL_law 676 = .ok (.iadd, 1) := by decide +kernel
theorem dL_law_677 : decode cL_law 677 = .ok (.iaload, 1) := by decide +kernel
theorem dL_law_678 : decode cL_law 678 = .ok (.aload_n 0, 1) := by decide +kernel
theorem dL_law_679 : decode cL_law 679 = .ok (.iload_n 3, 1) := by decide +kernel
theorem dL_law_680 : decode cL_law 680 = .ok (.iconst 2, 1) := by decide +kernel
theorem dL_law_681 : decode cL_law 681 = .ok (.iadd, 1) := by decide +kernel
theorem dL_law_682 : decode cL_law 682 = .ok (.iaload, 1) := by decide +kernel
theorem dL_law_683 : decode cL_law 683 = .ok (.invokevirtual 93, 3) := by decide +kernel
theorem dL_law_686 : decode cL_law 686 = .ok (.if_icmp .eq 447, 3) := by decide +kernel
theorem dL_law_689 : decode cL_law 689 = .ok (.iconst 0, 1) := by decide +kernel
theorem dL_law_690 : decode cL_law 690 = .ok (.ireturn, 1) := by decide +kernel
theorem dL_law_691 : decode cL_law 691 = .ok (.aload_n 1, 1) := by decide +kernel
theorem dL_law_692 : decode cL_law 692 = .ok (.aload_n 0, 1) := by decide +kernel
theorem dL_law_693 : decode cL_law 693 = .ok (.iload_n 3, 1) := by decide +kernel
theorem dL_law_694 : decode cL_law 694 = .ok (.iconst 1, 1) := by decide +kernel
theorem dL_law_695 : decode cL_law 695 = .ok (.iadd, 1) := by decide +kernel
theorem dL_law_696 : decode cL_law 696 = .ok (.iaload, 1) := by decide +kernel
theorem dL_law_697 : decode cL_law 697 = .ok (.invokevirtual 94, 3) := by decide +kernel
theorem dL_law_700 : decode cL_law 700 = .ok (.aload_n 2, 1) := by decide +kernel
theorem dL_law_701 : decode cL_law 701 = .ok (.aload_n 0, 1) := by decide +kernel
theorem dL_law_702 : decode cL_law 702 = .ok (.iload_n 3, 1) := by decide +kernel
theorem dL_law_703 : decode cL_law 703 = .ok (.iconst 1, 1) := by decide +kernel
theorem dL_law_704 : decode cL_law 704 = .ok (.iadd, 1) := by decide +kernel
theorem dL_law_705 : decode cL_law 705 = .ok (.iaload, 1) := by decide +kernel
theorem dL_law_706 : decode cL_law 706 = .ok (.invokevirtual 97, 3) := by decide +kernel
theorem dL_law_709 : decode cL_law 709 = .ok (.if_icmp .eq 424, 3) := by decide +kernel
theorem dL_law_712 : decode cL_law 712 = .ok (.iconst 0, 1) := by decide +kernel
theorem dL_law_713 : decode cL_law 713 = .ok (.ireturn, 1) := by decide +kernel
theorem dL_law_714 : decode cL_law 714 = .ok (.aload_n 1, 1) := by decide +kernel
theorem dL_law_715 : decode cL_law 715 = .ok (.aload_n 0, 1) := by decide +kernel
theorem dL_law_716 : decode cL_law 716 = .ok (.iload_n 3, 1) := by decide +kernel
theorem dL_law_717 : decode cL_law 717 = .ok (.iconst 1, 1) := by decide +kernel
theorem dL_law_718 : decode cL_law 718 = .ok (.iadd, 1) := by decide +kernel
theorem dL_law_719 : decode cL_law 719 = .ok (.iaload, 1) := by decide +kernel
theorem dL_law_720 : decode cL_law 720 = .ok (.aload_n 0, 1) := by decide +kernel
theorem dL_law_721 : decode cL_law 721 = .ok (.iload_n 3, 1) := by decide +kernel
theorem dL_law_722 : decode cL_law 722 = .ok (.iconst 2, 1) := by decide +kernel
theorem dL_law_723 : decode cL_law 723 = .ok (.iadd, 1) := by decide +kernel
theorem dL_law_724 : decode cL_law 724 = .ok (.iaload, 1) := by decide +kernel
theorem dL_law_725 : decode cL_law 725 = .ok (.aload_n 0, 1) := by decide +kernel
theorem dL_law_726 : decode cL_law 726 = .ok (.iload_n 3, 1) := by decide +kernel
theorem dL_law_727 : decode cL_law 727 = .ok (.iconst 3, 1) := by decide +kernel
theorem dL_law_728 : decode cL_law 728 = .ok (.iadd, 1) := by decide +kernel
theorem dL_law_729 : decode cL_law 729 = .ok (.iaload, 1) := by decide +kernel
theorem dL_law_730 : decode cL_law 730 = .ok (.aload_n 0, 1) := by decide +kernel
theorem dL_law_731 : decode cL_law 731 = .ok (.iload_n 3, 1) := by decide +kernel
theorem dL_law_732 : decode cL_law 732 = .ok (.iconst 4, 1) := by decide +kernel
theorem dL_law_733 : decode cL_law 733 = .ok (.iadd, 1) := by decide +kernel
theorem dL_law_734 : decode cL_law 734 = .ok (.iaload, 1) := by decide +kernel
theorem dL_law_735 : decode cL_law 735 = .ok (.aload_n 0, 1) := by decide +kernel
theorem dL_law_736 : decode cL_law 736 = .ok (.iload_n 3, 1) := by decide +kernel
theorem dL_law_737 : decode cL_law 737 = .ok (.iconst 5, 1) := by decide +kernel
theorem dL_law_738 : decode cL_law 738 = .ok (.iadd, 1) := by decide +kernel
theorem dL_law_739 : decode cL_law 739 = .ok (.iaload, 1) := by decide +kernel
theorem dL_law_740 : decode cL_law 740 = .ok (.aload_n 0, 1) := by decide +kernel
theorem dL_law_741 : decode cL_law 741 = .ok (.iload_n 3, 1) := by decide +kernel
theorem dL_law_742 : decode cL_law 742 = .ok (.bipush 6, 2) := by decide +kernel
theorem dL_law_744 : decode cL_law 744 = .ok (.iadd, 1) := by decide +kernel
theorem dL_law_745 : decode cL_law 745 = .ok (.iaload, 1) := by decide +kernel
theorem dL_law_746 : decode cL_law 746 = .ok (.invokevirtual 98, 3) := by decide +kernel
theorem dL_law_749 : decode cL_law 749 = .ok (.aload_n 2, 1) := by decide +kernel
theorem dL_law_750 : decode cL_law 750 = .ok (.aload_n 0, 1) := by decide +kernel
theorem dL_law_751 : decode cL_law 751 = .ok (.iload_n 3, 1) := by decide +kernel
theorem dL_law_752 : decode cL_law 752 = .ok (.iconst 1, 1) := by decide +kernel
theorem dL_law_753 : decode cL_law 753 = .ok (.iadd, 1) := by decide +kernel
theorem dL_law_754 : decode cL_law 754 = .ok (.iaload, 1) := by decide +kernel
theorem dL_law_755 : decode cL_law 755 = .ok (.aload_n 0, 1) := by decide +kernel
theorem dL_law_756 : decode cL_law 756 = .ok (.iload_n 3, 1) := by decide +kernel
theorem dL_law_757 : decode cL_law 757 = .ok (.iconst 2, 1) := by decide +kernel
theorem dL_law_758 : decode cL_law 758 = .ok (.iadd, 1) := by decide +kernel
theorem dL_law_759 : decode cL_law 759 = .ok (.iaload, 1) := by decide +kernel
theorem dL_law_760 : decode cL_law 760 = .ok (.aload_n 0, 1) := by decide +kernel
theorem dL_law_761 : decode cL_law 761 = .ok (.iload_n 3, 1) := by decide +kernel
theorem dL_law_762 : decode cL_law 762 = .ok (.iconst 3, 1) := by decide +kernel
theorem dL_law_763 : decode cL_law 763 = .ok (.iadd, 1) := by decide +kernel
theorem dL_law_764 : decode cL_law 764 = .ok (.iaload, 1) := by decide +kernel
theorem dL_law_765 : decode cL_law 765 = .ok (.aload_n 0, 1) := by decide +kernel
theorem dL_law_766 : decode cL_law 766 = .ok (.iload_n 3, 1) := by decide +kernel
theorem dL_law_767 : decode cL_law 767 = .ok (.iconst 4, 1) := by decide +kernel
theorem dL_law_768 : decode cL_law 768 = .ok (.iadd, 1) := by decide +kernel
theorem dL_law_769 : decode cL_law 769 = .ok (.iaload, 1) := by decide +kernel
theorem dL_law_770 : decode cL_law 770 = .ok (.aload_n 0, 1) := by decide +kernel
theorem dL_law_771 : decode cL_law 771 = .ok (.iload_n 3, 1) := by decide +kernel
theorem dL_law_772 : decode cL_law 772 = .ok (.iconst 5, 1) := by decide +kernel
theorem dL_law_773 : decode cL_law 773 = .ok (.iadd, 1) := by decide +kernel
theorem dL_law_774 : decode cL_law 774 = .ok (.iaload, 1) := by decide +kernel
theorem dL_law_775 : decode cL_law 775 = .ok (.aload_n 0, 1) := by decide +kernel
theorem dL_law_776 : decode cL_law 776 = .ok (.iload_n 3, 1) := by decide +kernel
theorem dL_law_777 : decode cL_law 777 = .ok (.bipush 6, 2) := by decide +kernel
theorem dL_law_779 : decode cL_law 779 = .ok (.iadd, 1) := by decide +kernel
theorem dL_law_780 : decode cL_law 780 = .ok (.iaload, 1) := by decide +kernel
theorem dL_law_781 : decode cL_law 781 = .ok (.invokevirtual 102, 3) := by decide +kernel
theorem dL_law_784 : decode cL_law 784 = .ok (.if_icmp .eq 349, 3) := by decide +kernel
theorem dL_law_787 : decode cL_law 787 = .ok (.iconst 0, 1) := by decide +kernel
theorem dL_law_788 : decode cL_law 788 = .ok (.ireturn, 1) := by decide +kernel
theorem dL_law_789 : decode cL_law 789 = .ok (.aload_n 1, 1) := by decide +kernel
theorem dL_law_790 : decode cL_law 790 = .ok (.invokevirtual 103, 3) := by decide +kernel
theorem dL_law_793 : decode cL_law 793 = .ok (.aload_n 2, 1) := by decide +kernel
theorem dL_law_794 : decode cL_law 794 = .ok (.invokevirtual 106, 3) := by decide +kernel
theorem dL_law_797 : decode cL_law 797 = .ok (.if_icmp .eq 336, 3) := by decide +kernel
theorem dL_law_800 : decode cL_law 800 = .ok (.iconst 0, 1) := by decide +kernel
theorem dL_law_801 : decode cL_law 801 = .ok (.ireturn, 1) := by decide +kernel
theorem dL_law_802 : decode cL_law 802 = .ok (.aload_n 1, 1) := by decide +kernel
theorem dL_law_803 : decode cL_law 803 = .ok (.invokevirtual 107, 3) := by decide +kernel
theorem dL_law_806 : decode cL_law 806 = .ok (.aload_n 2, 1) := by decide +kernel
theorem dL_law_807 : decode cL_law 807 = .ok (.invokevirtual 110, 3) := by decide +kernel
theorem dL_law_810 : decode cL_law 810 = .ok (.if_icmp .eq 323, 3) := by decide +kernel
theorem dL_law_813 : decode cL_law 813 = .ok (.iconst 0, 1) := by decide +kernel
theorem dL_law_814 : decode cL_law 814 = .ok (.ireturn, 1) := by decide +kernel
theorem dL_law_815 : decode cL_law 815 = .ok (.aload_n 1, 1) := by decide +kernel
theorem dL_law_816 : decode cL_law 816 = .ok (.aload_n 0, 1) := by decide +kernel
theorem dL_law_817 : decode cL_law 817 = .ok (.iload_n 3, 1) := by decide +kernel
theorem dL_law_818 : decode cL_law 818 = .ok (.iconst 1, 1) := by decide +kernel
theorem dL_law_819 : decode cL_law 819 = .ok (.iadd, 1) := by decide +kernel
theorem dL_law_820 : decode cL_law 820 = .ok (.iaload, 1) := by decide +kernel
theorem dL_law_821 : decode cL_law 821 = .ok (.aload_n 0, 1) := by decide +kernel
theorem dL_law_822 : decode cL_law 822 = .ok (.iload_n 3, 1) := by decide +kernel
theorem dL_law_823 : decode cL_law 823 = .ok (.iconst 2, 1) := by decide +kernel
theorem dL_law_824 : decode cL_law 824 = .ok (.iadd, 1) := by decide +kernel
theorem dL_law_825 : decode cL_law 825 = .ok (.iaload, 1) := by decide +kernel
theorem dL_law_826 : decode cL_law 826 = .ok (.aload_n 0, 1) := by decide +kernel
theorem dL_law_827 : decode cL_law 827 = .ok (.iload_n 3, 1) := by decide +kernel
theorem dL_law_828 : decode cL_law 828 = .ok (.iconst 3, 1) := by decide +kernel
theorem dL_law_829 : decode cL_law 829 = .ok (.iadd, 1) := by decide +kernel
theorem dL_law_830 : decode cL_law 830 = .ok (.iaload, 1) := by decide +kernel
theorem dL_law_831 : decode cL_law 831 = .ok (.aload_n 0, 1) := by decide +kernel
theorem dL_law_832 : decode cL_law 832 = .ok (.iload_n 3, 1) := by decide +kernel
theorem dL_law_833 : decode cL_law 833 = .ok (.iconst 4, 1) := by decide +kernel
theorem dL_law_834 : decode cL_law 834 = .ok (.iadd, 1) := by decide +kernel
theorem dL_law_835 : decode cL_law 835 = .ok (.iaload, 1) := by decide +kernel
theorem dL_law_836 : decode cL_law 836 = .ok (.invokevirtual 111, 3) := by decide +kernel
theorem dL_law_839 : decode cL_law 839 = .ok (.aload_n 2, 1) := by decide +kernel
theorem dL_law_840 : decode cL_law 840 = .ok (.aload_n 0, 1) := by decide +kernel
theorem dL_law_841 : decode cL_law 841 = .ok (.iload_n 3, 1) := by decide +kernel
theorem dL_law_842 : decode cL_law 842 = .ok (.iconst 1, 1) := by decide +kernel
theorem dL_law_843 : decode cL_law 843 = .ok (.iadd, 1) := by decide +kernel
theorem dL_law_844 : decode cL_law 844 = .ok (.iaload, 1) := by decide +kernel
theorem dL_law_845 : decode cL_law 845 = .ok (.aload_n 0, 1) := by decide +kernel
theorem dL_law_846 : decode cL_law 846 = .ok (.iload_n 3, 1) := by decide +kernel
theorem dL_law_847 : decode cL_law 847 = .ok (.iconst 2, 1) := by decide +kernel
theorem dL_law_848 : decode cL_law 848 = .ok (.iadd, 1) := by decide +kernel
theorem dL_law_849 : decode cL_law 849 = .ok (.iaload, 1) := by decide +kernel
theorem dL_law_850 : decode cL_law 850 = .ok (.aload_n 0, 1) := by decide +kernel
theorem dL_law_851 : decode cL_law 851 = .ok (.iload_n 3, 1) := by decide +kernel
theorem dL_law_852 : decode cL_law 852 = .ok (.iconst 3, 1) := by decide +kernel
theorem dL_law_853 : decode cL_law 853 = .ok (.iadd, 1) := by decide +kernel
theorem dL_law_854 : decode cL_law 854 = .ok (.iaload, 1) := by decide +kernel
theorem dL_law_855 : decode cL_law 855 = .ok (.aload_n 0, 1) := by decide +kernel
theorem dL_law_856 : decode cL_law 856 = .ok (.iload_n 3, 1) := by decide +kernel
theorem dL_law_857 : decode cL_law 857 = .ok (.iconst 4, 1) := by decide +kernel
theorem dL_law_858 : decode cL_law 858 = .ok (.iadd, 1) := by decide +kernel
theorem dL_law_859 : decode cL_law 859 = .ok (.iaload, 1) := by decide +kernel
theorem dL_law_860 : decode cL_law 860 = .ok (.invokevirtual 114, 3) := by decide +kernel
theorem dL_law_863 : decode cL_law 863 = .ok (.if_icmp .eq 270, 3) := by decide +kernel
theorem dL_law_866 : decode cL_law 866 = .ok (.iconst 0, 1) := by decide +kernel
theorem dL_law_867 : decode cL_law 867 = .ok (.ireturn, 1) := by decide +kernel
theorem dL_law_868 : decode cL_law 868 = .ok (.aload_n 1, 1) := by decide +kernel
theorem dL_law_869 : decode cL_law 869 = .ok (.aload_n 0, 1) := by decide +kernel
theorem dL_law_870 : decode cL_law 870 = .ok (.iload_n 3, 1) := by decide +kernel
theorem dL_law_871 : decode cL_law 871 = .ok (.iconst 1, 1) := by decide +kernel
theorem dL_law_872 : decode cL_law 872 = .ok (.iadd, 1) := by decide +kernel
theorem dL_law_873 : decode cL_law 873 = .ok (.iaload, 1) := by decide +kernel
theorem dL_law_874 : decode cL_law 874 = .ok (.aload_n 0, 1) := by decide +kernel
theorem dL_law_875 : decode cL_law 875 = .ok (.iload_n 3, 1) := by decide +kernel
theorem dL_law_876 : decode cL_law 876 = .ok (.iconst 2, 1) := by decide +kernel
theorem dL_law_877 : decode cL_law 877 = .ok (.iadd, 1) := by decide +kernel
theorem dL_law_878 : decode cL_law 878 = .ok (.iaload, 1) := by decide +kernel
theorem dL_law_879 : decode cL_law 879 = .ok (.aload_n 0, 1) := by decide +kernel
theorem dL_law_880 : decode cL_law 880 = .ok (.iload_n 3, 1) := by decide +kernel
theorem dL_law_881 : decode cL_law 881 = .ok (.iconst 3, 1) := by decide +kernel
theorem dL_law_882 : decode cL_law 882 = .ok (.iadd, 1) := by decide +kernel
theorem dL_law_883 : decode cL_law 883 = .ok (.iaload, 1) := by decide +kernel
theorem dL_law_884 : decode cL_law 884 = .ok (.aload_n 0, 1) := by decide +kernel
theorem dL_law_885 : decode cL_law 885 = .ok (.iload_n 3, 1) := by decide +kernel
theorem dL_law_886 : decode cL_law 886 = .ok (.iconst 4, 1) := by decide +kernel
theorem dL_law_887 : decode cL_law 887 = .ok (.iadd, 1) := by decide +kernel
theorem dL_law_888 : decode cL_law 888 = .ok (.iaload, 1) := by decide +kernel
theorem dL_law_889 : decode cL_law 889 = .ok (.invokevirtual 115, 3) := by decide +kernel
theorem dL_law_892 : decode cL_law 892 = .ok (.aload_n 2, 1) := by decide +kernel
theorem dL_law_893 : decode cL_law 893 = .ok (.aload_n 0, 1) := by decide +kernel
theorem dL_law_894 : decode cL_law 894 = .ok (.iload_n 3, 1) := by decide +kernel
theorem dL_law_895 : decode cL_law 895 = .ok (.iconst 1, 1) := by decide +kernel
theorem dL_law_896 : decode cL_law 896 = .ok (.iadd, 1) := by decide +kernel
theorem dL_law_897 : decode cL_law 897 = .ok (.iaload, 1) := by decide +kernel
theorem dL_law_898 : decode cL_law 898 = .ok (.aload_n 0, 1) := by decide +kernel
theorem dL_law_899 : decode cL_law 899 = .ok (.iload_n 3, 1) := by decide +kernel
theorem dL_law_900 : decode cL_law 900 = .ok (.iconst 2, 1) := by decide +kernel
theorem dL_law_901 : decode cL_law 901 = .ok (.iadd, 1) := by decide +kernel
theorem dL_law_902 : decode cL_law 902 = .ok (.iaload, 1) := by decide +kernel
theorem dL_law_903 : decode cL_law 903 = .ok (.aload_n 0, 1) := by decide +kernel
theorem dL_law_904 : decode cL_law 904 = .ok (.iload_n 3, 1) := by decide +kernel
theorem dL_law_905 : decode cL_law 905 = .ok (.iconst 3, 1) := by decide +kernel
theorem dL_law_906 : decode cL_law 906 = .ok (.iadd, 1) := by decide +kernel
theorem dL_law_907 : decode cL_law 907 = .ok (.iaload, 1) := by decide +kernel
theorem dL_law_908 : decode cL_law 908 = .ok (.aload_n 0, 1) := by decide +kernel
theorem dL_law_909 : decode cL_law 909 = .ok (.iload_n 3, 1) := by decide +kernel
theorem dL_law_910 : decode cL_law 910 = .ok (.iconst 4, 1) := by decide +kernel
theorem dL_law_911 : decode cL_law 911 = .ok (.iadd, 1) := by decide +kernel
theorem dL_law_912 : decode cL_law 912 = .ok (.iaload, 1) := by decide +kernel
theorem dL_law_913 : decode cL_law 913 = .ok (.invokevirtual 118, 3) := by decide +kernel
theorem dL_law_916 : decode cL_law 916 = .ok (.if_icmp .eq 217, 3) := by decide +kernel
theorem dL_law_919 : decode cL_law 919 = .ok (.iconst 0, 1) := by decide +kernel
theorem dL_law_920 : decode cL_law 920 = .ok (.ireturn, 1) := by decide +kernel
theorem dL_law_921 : decode cL_law 921 = .ok (.aload_n 1, 1) := by decide +kernel
theorem dL_law_922 : decode cL_law 922 = .ok (.aload_n 0, 1) := by decide +kernel
theorem dL_law_923 : decode cL_law 923 = .ok (.iload_n 3, 1) := by decide +kernel
theorem dL_law_924 : decode cL_law 924 = .ok (.iconst 1, 1) := by decide +kernel
theorem dL_law_925 : decode cL_law 925 = .ok (.iadd, 1) := by decide +kernel
theorem dL_law_926 : decode cL_law 926 = .ok (.iaload, 1) := by decide +kernel
theorem dL_law_927 : decode cL_law 927 = .ok (.aload_n 0, 1) := by decide +kernel
theorem dL_law_928 : decode cL_law 928 = .ok (.iload_n 3, 1) := by decide +kernel
theorem dL_law_929 : decode cL_law 929 = .ok (.iconst 2, 1) := by decide +kernel
theorem dL_law_930 : decode cL_law 930 = .ok (.iadd, 1) := by decide +kernel
theorem dL_law_931 : decode cL_law 931 = .ok (.iaload, 1) := by decide +kernel
theorem dL_law_932 : decode cL_law 932 = .ok (.aload_n 0, 1) := by decide +kernel
theorem dL_law_933 : decode cL_law 933 = .ok (.iload_n 3, 1) := by decide +kernel
theorem dL_law_934 : decode cL_law 934 = .ok (.iconst 3, 1) := by decide +kernel
theorem dL_law_935 : decode cL_law 935 = .ok (.iadd, 1) := by decide +kernel
theorem dL_law_936 : decode cL_law 936 = .ok (.iaload, 1) := by decide +kernel
theorem dL_law_937 : decode cL_law 937 = .ok (.invokevirtual 119, 3) := by decide +kernel
theorem dL_law_940 : decode cL_law 940 = .ok (.aload_n 2, 1) := by decide +kernel
theorem dL_law_941 : decode cL_law 941 = .ok (.aload_n 0, 1) := by decide +kernel
theorem dL_law_942 : decode cL_law 942 = .ok (.iload_n 3, 1) := by decide +kernel
theorem dL_law_943 : decode cL_law 943 = .ok (.iconst 1, 1) := by decide +kernel
theorem dL_law_944 : decode cL_law 944 = .ok (.iadd, 1) := by decide +kernel
theorem dL_law_945 : decode cL_law 945 = .ok (.iaload, 1) := by decide +kernel
theorem dL_law_946 : decode cL_law 946 = .ok (.aload_n 0, 1) := by decide +kernel
theorem dL_law_947 : decode cL_law 947 = .ok (.iload_n 3, 1) := by decide +kernel
theorem dL_law_948 : decode cL_law 948 = .ok (.iconst 2, 1) := by decide +kernel
theorem dL_law_949 : decode cL_law 949 = .ok (.iadd, 1) := by decide +kernel
theorem dL_law_950 : decode cL_law 950 = .ok (.iaload, 1) := by decide +kernel
theorem dL_law_951 : decode cL_law 951 = .ok (.aload_n 0, 1) := by decide +kernel
theorem dL_law_952 : decode cL_law 952 = .ok (.iload_n 3, 1) := by decide +kernel
theorem dL_law_953 : decode cL_law 953 = .ok (.iconst 3, 1) := by decide +kernel
theorem dL_law_954 : decode cL_law 954 = .ok (.iadd, 1) := by decide +kernel
theorem dL_law_955 : decode cL_law 955 = .ok (.iaload, 1) := by decide +kernel
theorem dL_law_956 : decode cL_law 956 = .ok (.invokevirtual 122, 3) := by decide +kernel
theorem dL_law_959 : decode cL_law 959 = .ok (.if_icmp .eq 174, 3) := by decide +kernel
theorem dL_law_962 : decode cL_law 962 = .ok (.iconst 0, 1) := by decide +kernel
theorem dL_law_963 : decode cL_law 963 = .ok (.ireturn, 1) := by decide +kernel
theorem dL_law_964 : decode cL_law 964 = .ok (.aload_n 1, 1) := by decide +kernel
theorem dL_law_965 : decode cL_law 965 = .ok (.aload_n 0, 1) := by decide +kernel
theorem dL_law_966 : decode cL_law 966 = .ok (.iload_n 3, 1) := by decide +kernel
theorem dL_law_967 : decode cL_law 967 = .ok (.iconst 1, 1) := by decide +kernel
theorem dL_law_968 : decode cL_law 968 = .ok (.iadd, 1) := by decide +kernel
theorem dL_law_969 : decode cL_law 969 = .ok (.iaload, 1) := by decide +kernel
theorem dL_law_970 : decode cL_law 970 = .ok (.invokevirtual 123, 3) := by decide +kernel
theorem dL_law_973 : decode cL_law 973 = .ok (.aload_n 2, 1) := by decide +kernel
theorem dL_law_974 : decode cL_law 974 = .ok (.aload_n 0, 1) := by decide +kernel
theorem dL_law_975 : decode cL_law 975 = .ok (.iload_n 3, 1) := by decide +kernel
theorem dL_law_976 : decode cL_law 976 = .ok (.iconst 1, 1) := by decide +kernel
theorem dL_law_977 : decode cL_law 977 = .ok (.iadd, 1) := by decide +kernel
theorem dL_law_978 : decode cL_law 978 = .ok (.iaload, 1) := by decide +kernel
theorem dL_law_979 : decode cL_law 979 = .ok (.invokevirtual 126, 3) := by decide +kernel
theorem dL_law_982 : decode cL_law 982 = .ok (.if_icmp .eq 151, 3) := by decide +kernel
theorem dL_law_985 : decode cL_law 985 = .ok (.iconst 0, 1) := by decide +kernel
theorem dL_law_986 : decode cL_law 986 = .ok (.ireturn, 1) := by decide +kernel
theorem dL_law_987 : decode cL_law 987 = .ok (.aload_n 1, 1) := by decide +kernel
theorem dL_law_988 : decode cL_law 988 = .ok (.aload_n 0, 1) := by decide +kernel
theorem dL_law_989 : decode cL_law 989 = .ok (.iload_n 3, 1) := by decide +kernel
theorem dL_law_990 : decode cL_law 990 = .ok (.iconst 1, 1) := by decide +kernel
theorem dL_law_991 : decode cL_law 991 = .ok (.iadd, 1) := by decide +kernel
theorem dL_law_992 : decode cL_law 992 = .ok (.iaload, 1) := by decide +kernel
theorem dL_law_993 : decode cL_law 993 = .ok (.aload_n 0, 1) := by decide +kernel
theorem dL_law_994 : decode cL_law 994 = .ok (.iload_n 3, 1) := by decide +kernel
theorem dL_law_995 : decode cL_law 995 = .ok (.iconst 2, 1) := by decide +kernel
theorem dL_law_996 : decode cL_law 996 = .ok (.iadd, 1) := by decide +kernel
theorem dL_law_997 : decode cL_law 997 = .ok (.iaload, 1) := by decide +kernel
theorem dL_law_998 : decode cL_law 998 = .ok (.aload_n 0, 1) := by decide +kernel
theorem dL_law_999 : decode cL_law 999 = .ok (.iload_n 3, 1) := by decide +kernel
theorem dL_law_1000 : decode cL_law 1000 = .ok (.iconst 3, 1) := by decide +kernel
theorem dL_law_1001 : decode cL_law 1001 = .ok (.iadd, 1) := by decide +kernel
theorem dL_law_1002 : decode cL_law 1002 = .ok (.iaload, 1) := by decide +kernel
theorem dL_law_1003 : decode cL_law 1003 = .ok (.aload_n 0, 1) := by decide +kernel
theorem dL_law_1004 : decode cL_law 1004 = .ok (.iload_n 3, 1) := by decide +kernel
theorem dL_law_1005 : decode cL_law 1005 = .ok (.iconst 4, 1) := by decide +kernel
theorem dL_law_1006 : decode cL_law 1006 = .ok (.iadd, 1) := by decide +kernel
theorem dL_law_1007 : decode cL_law 1007 = .ok (.iaload, 1) := by decide +kernel
theorem dL_law_1008 : decode cL_law 1008 = .ok (.i2l, 1) := by decide +kernel
theorem dL_law_1009 : decode cL_law 1009 = .ok (.bipush 32, 2) := by decide +kernel
theorem dL_law_1011 : decode cL_law 1011 = .ok (.lshl, 1) := by decide +kernel
theorem dL_law_1012 : decode cL_law 1012 = .ok (.aload_n 0, 1) := by decide +kernel
theorem dL_law_1013 : decode cL_law 1013 = .ok (.iload_n 3, 1) := by decide +kernel
theorem dL_law_1014 : decode cL_law 1014 = .ok (.iconst 5, 1) := by decide +kernel
theorem dL_law_1015 : decode cL_law 1015 = .ok (.iadd, 1) := by decide +kernel
theorem dL_law_1016 : decode cL_law 1016 = .ok (.iaload, 1) := by decide +kernel
theorem dL_law_1017 : decode cL_law 1017 = .ok (.i2l, 1) := by decide +kernel
theorem dL_law_1018 : decode cL_law 1018 = .ok (.ldc2_w 127, 3) := by decide +kernel
theorem dL_law_1021 : decode cL_law 1021 = .ok (.land, 1) := by decide +kernel
theorem dL_law_1022 : decode cL_law 1022 = .ok (.lor, 1) := by decide +kernel
theorem dL_law_1023 : decode cL_law 1023 = .ok (.invokevirtual 129, 3) := by decide +kernel
theorem dL_law_1026 : decode cL_law 1026 = .ok (.aload_n 2, 1) := by decide +kernel
theorem dL_law_1027 : decode cL_law 1027 = .ok (.aload_n 0, 1) := by decide +kernel
theorem dL_law_1028 : decode cL_law 1028 = .ok (.iload_n 3, 1) := by decide +kernel
theorem dL_law_1029 : decode cL_law 1029 = .ok (.iconst 1, 1) := by decide +kernel
theorem dL_law_1030 : decode cL_law 1030 = .ok (.iadd, 1) := by decide +kernel
theorem dL_law_1031 : decode cL_law 1031 = .ok (.iaload, 1) := by decide +kernel
theorem dL_law_1032 : decode cL_law 1032 = .ok (.aload_n 0, 1) := by decide +kernel
theorem dL_law_1033 : decode cL_law 1033 = .ok (.iload_n 3, 1) := by decide +kernel
theorem dL_law_1034 : decode cL_law 1034 = .ok (.iconst 2, 1) := by decide +kernel
theorem dL_law_1035 : decode cL_law 1035 = .ok (.iadd, 1) := by decide +kernel
theorem dL_law_1036 : decode cL_law 1036 = .ok (.iaload, 1) := by decide +kernel
theorem dL_law_1037 : decode cL_law 1037 = .ok (.aload_n 0, 1) := by decide +kernel
theorem dL_law_1038 : decode cL_law 1038 = .ok (.iload_n 3, 1) := by decide +kernel
theorem dL_law_1039 : decode cL_law 1039 = .ok (.iconst 3, 1) := by decide +kernel
theorem dL_law_1040 : decode cL_law 1040 = .ok (.iadd, 1) := by decide +kernel
theorem dL_law_1041 : decode cL_law 1041 = .ok (.iaload, 1) := by decide +kernel
theorem dL_law_1042 : decode cL_law 1042 = .ok (.aload_n 0, 1) := by decide +kernel
theorem dL_law_1043 : decode cL_law 1043 = .ok (.iload_n 3, 1) := by decide +kernel
theorem dL_law_1044 : decode cL_law 1044 = .ok (.iconst 4, 1) := by decide +kernel
theorem dL_law_1045 : decode cL_law 1045 = .ok (.iadd, 1) := by decide +kernel
theorem dL_law_1046 : decode cL_law 1046 = .ok (.iaload, 1) := by decide +kernel
theorem dL_law_1047 : decode cL_law 1047 = .ok (.i2l, 1) := by decide +kernel
theorem dL_law_1048 : decode cL_law 1048 = .ok (.bipush 32, 2) := by decide +kernel
theorem dL_law_1050 : decode cL_law 1050 = .ok (.lshl, 1) := by decide +kernel
theorem dL_law_1051 : decode cL_law 1051 = .ok (.aload_n 0, 1) := by decide +kernel
theorem dL_law_1052 : decode cL_law 1052 = .ok (.iload_n 3, 1) := by decide +kernel
theorem dL_law_1053 : decode cL_law 1053 = .ok (.iconst 5, 1) := by decide +kernel
theorem dL_law_1054 : decode cL_law 1054 = .ok (.iadd, 1) := by decide +kernel
theorem dL_law_1055 : decode cL_law 1055 = .ok (.iaload, 1) := by decide +kernel
theorem dL_law_1056 : decode cL_law 1056 = .ok (.i2l, 1) := by decide +kernel
theorem dL_law_1057 : decode cL_law 1057 = .ok (.ldc2_w 127, 3) := by decide +kernel
theorem dL_law_1060 : decode cL_law 1060 = .ok (.land, 1) := by decide +kernel
theorem dL_law_1061 : decode cL_law 1061 = .ok (.lor, 1) := by decide +kernel
theorem dL_law_1062 : decode cL_law 1062 = .ok (.invokevirtual 133, 3) := by decide +kernel
theorem dL_law_1065 : decode cL_law 1065 = .ok (.if_icmp .eq 68, 3) := by decide +kernel
theorem dL_law_1068 : decode cL_law 1068 = .ok (.iconst 0, 1) := by decide +kernel
theorem dL_law_1069 : decode cL_law 1069 = .ok (.ireturn, 1) := by decide +kernel
theorem dL_law_1070 : decode cL_law 1070 = .ok (.aload_n 1, 1) := by decide +kernel
theorem dL_law_1071 : decode cL_law 1071 = .ok (.aload_n 0, 1) := by decide +kernel
theorem dL_law_1072 : decode cL_law 1072 = .ok (.iload_n 3, 1) := by decide +kernel
theorem dL_law_1073 : decode cL_law 1073 = .ok (.iconst 1, 1) := by decide +kernel
theorem dL_law_1074 : decode cL_law 1074 = .ok (.iadd, 1) := by decide +kernel
theorem dL_law_1075 : decode cL_law 1075 = .ok (.iaload, 1) := by decide +kernel
theorem dL_law_1076 : decode cL_law 1076 = .ok (.aload_n 0, 1) := by decide +kernel
theorem dL_law_1077 : decode cL_law 1077 = .ok (.iload_n 3, 1) := by decide +kernel
theorem dL_law_1078 : decode cL_law 1078 = .ok (.iconst 2, 1) := by decide +kernel
theorem dL_law_1079 : decode cL_law 1079 = .ok (.iadd, 1) := by decide +kernel
theorem dL_law_1080 : decode cL_law 1080 = .ok (.iaload, 1) := by decide +kernel
theorem dL_law_1081 : decode cL_law 1081 = .ok (.aload_n 0, 1) := by decide +kernel
theorem dL_law_1082 : decode cL_law 1082 = .ok (.iload_n 3, 1) := by decide +kernel
theorem dL_law_1083 : decode cL_law 1083 = .ok (.iconst 3, 1) := by decide +kernel
theorem dL_law_1084 : decode cL_law 1084 = .ok (.iadd, 1) := by decide +kernel
theorem dL_law_1085 : decode cL_law 1085 = .ok (.iaload, 1) := by decide +kernel
theorem dL_law_1086 : decode cL_law 1086 = .ok (.aload_n 0, 1) := by decide +kernel
theorem dL_law_1087 : decode cL_law 1087 = .ok (.iload_n 3, 1) := by decide +kernel
theorem dL_law_1088 : decode cL_law 1088 = .ok (.iconst 4, 1) := by decide +kernel
theorem dL_law_1089 : decode cL_law 1089 = .ok (.iadd, 1) := by decide +kernel
theorem dL_law_1090 : decode cL_law 1090 = .ok (.iaload, 1) := by decide +kernel
theorem dL_law_1091 : decode cL_law 1091 = .ok (.aload_n 0, 1) := by decide +kernel
theorem dL_law_1092 : decode cL_law 1092 = .ok (.iload_n 3, 1) := by decide +kernel
theorem dL_law_1093 : decode cL_law 1093 = .ok (.iconst 5, 1) := by decide +kernel
theorem dL_law_1094 : decode cL_law 1094 = .ok (.iadd, 1) := by decide +kernel
theorem dL_law_1095 : decode cL_law 1095 = .ok (.iaload, 1) := by decide +kernel
theorem dL_law_1096 : decode cL_law 1096 = .ok (.invokevirtual 134, 3) := by decide +kernel
theorem dL_law_1099 : decode cL_law 1099 = .ok (.aload_n 2, 1) := by decide +kernel
theorem dL_law_1100 : decode cL_law 1100 = .ok (.aload_n 0, 1) := by decide +kernel
theorem dL_law_1101 : decode cL_law 1101 = .ok (.iload_n 3, 1) := by decide +kernel
theorem dL_law_1102 : decode cL_law 1102 = .ok (.iconst 1, 1) := by decide +kernel
theorem dL_law_1103 : decode cL_law 1103 = .ok (.iadd, 1) := by decide +kernel
theorem dL_law_1104 : decode cL_law 1104 = .ok (.iaload, 1) := by decide +kernel
theorem dL_law_1105 : decode cL_law 1105 = .ok (.aload_n 0, 1) := by decide +kernel
theorem dL_law_1106 : decode cL_law 1106 = .ok (.iload_n 3, 1) := by decide +kernel
theorem dL_law_1107 : decode cL_law 1107 = .ok (.iconst 2, 1) := by decide +kernel
theorem dL_law_1108 : decode cL_law 1108 = .ok (.iadd, 1) := by decide +kernel
theorem dL_law_1109 : decode cL_law 1109 = .ok (.iaload, 1) := by decide +kernel
theorem dL_law_1110 : decode cL_law 1110 = .ok (.aload_n 0, 1) := by decide +kernel
theorem dL_law_1111 : decode cL_law 1111 = .ok (.iload_n 3, 1) := by decide +kernel
theorem dL_law_1112 : decode cL_law 1112 = .ok (.iconst 3, 1) := by decide +kernel
theorem dL_law_1113 : decode cL_law 1113 = .ok (.iadd, 1) := by decide +kernel
theorem dL_law_1114 : decode cL_law 1114 = .ok (.iaload, 1) := by decide +kernel
theorem dL_law_1115 : decode cL_law 1115 = .ok (.aload_n 0, 1) := by decide +kernel
theorem dL_law_1116 : decode cL_law 1116 = .ok (.iload_n 3, 1) := by decide +kernel
theorem dL_law_1117 : decode cL_law 1117 = .ok (.iconst 4, 1) := by decide +kernel
theorem dL_law_1118 : decode cL_law 1118 = .ok (.iadd, 1) := by decide +kernel
theorem dL_law_1119 : decode cL_law 1119 = .ok (.iaload, 1) := by decide +kernel
theorem dL_law_1120 : decode cL_law 1120 = .ok (.aload_n 0, 1) := by decide +kernel
theorem dL_law_1121 : decode cL_law 1121 = .ok (.iload_n 3, 1) := by decide +kernel
theorem dL_law_1122 : decode cL_law 1122 = .ok (.iconst 5, 1) := by decide +kernel
theorem dL_law_1123 : decode cL_law 1123 = .ok (.iadd, 1) := by decide +kernel
theorem dL_law_1124 : decode cL_law 1124 = .ok (.iaload, 1) := by decide +kernel
theorem dL_law_1125 : decode cL_law 1125 = .ok (.invokevirtual 138, 3) := by decide +kernel
theorem dL_law_1128 : decode cL_law 1128 = .ok (.if_icmp .eq 5, 3) := by decide +kernel
theorem dL_law_1131 : decode cL_law 1131 = .ok (.iconst 0, 1) := by decide +kernel
theorem dL_law_1132 : decode cL_law 1132 = .ok (.ireturn, 1) := by decide +kernel
theorem dL_law_1133 : decode cL_law 1133 = .ok (.iinc 3 7, 3) := by decide +kernel
theorem dL_law_1136 : decode cL_law 1136 = .ok (.goto (-1118), 3) := by decide +kernel
theorem dL_law_1139 : decode cL_law 1139 = .ok (.iconst 1, 1) := by decide +kernel
theorem dL_law_1140 : decode cL_law 1140 = .ok (.ireturn, 1) := by decide +kernel
