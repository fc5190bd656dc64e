theorem dX8_takesNumber_85 : decode cX8_takesNumber 85 = .ok (.getfield 144, 3) := by decide +kernel
theorem dX8_takesNumber_88 : decode cX8_takesNumber 88 = .ok (.imul, 1) := by decide +kernel
theorem dX8_takesNumber_89 : decode cX8_takesNumber 89 = .ok (.aload_n 0, 1) := by decide +kernel
theorem dX8_takesNumber_90 : decode cX8_takesNumber 90 = .ok (.getfield 17, 3) := by decide +kernel
theorem dX8_takesNumber_93 : decode cX8_takesNumber 93 = .ok (.aload_n 0, 1) := by decide +kernel
theorem dX8_takesNumber_94 : decode cX8_takesNumber 94 = .ok (.getfield 131, 3) := by decide +kernel
theorem dX8_takesNumber_97 : decode cX8_takesNumber 97 = .ok (.iaload, 1) := by decide +kernel
theorem dX8_takesNumber_98 : decode cX8_takesNumber 98 = .ok (.iadd, 1) := by decide +kernel
theorem dX8_takesNumber_99 : decode cX8_takesNumber 99 = .ok (.bipush 48, 2) := by decide +kernel
theorem dX8_takesNumber_101 : decode cX8_takesNumber 101 = .ok (.isub, 1) := by decide +kernel
theorem dX8_takesNumber_102 : decode cX8_takesNumber 102 = .ok (.putfield 144, 3) := by decide +kernel
theorem dX8_takesNumber_105 : decode cX8_takesNumber 105 = .ok (.iinc 2 1, 3) := by decide +kernel
theorem dX8_takesNumber_108 : decode cX8_takesNumber 108 = .ok (.aload_n 0, 1) := by decide +kernel
theorem dX8_takesNumber_109 : decode cX8_takesNumber 109 = .ok (.dup, 1) := by decide +kernel
theorem dX8_takesNumber_110 : decode cX8_takesNumber 110 = .ok (.getfield 131, 3) := by decide +kernel
theorem dX8_takesNumber_113 : decode cX8_takesNumber 113 = .ok (.iconst 1, 1) := by decide +kernel
theorem dX8_takesNumber_114 : decode cX8_takesNumber 114 = .ok (.iadd, 1) := by decide +kernel
theorem dX8_takesNumber_115 : decode cX8_takesNumber 115 = .ok (.putfield 131, 3) := by decide +kernel
theorem dX8_takesNumber_118 : decode cX8_takesNumber 118 = .ok (.goto (-70), 3) := by decide +kernel
theorem dX8_takesNumber_121 : decode cX8_takesNumber 121 = .ok (.aload_n 0, 1) := by decide +kernel
theorem dX8_takesNumber_122 : decode cX8_takesNumber 122 = .ok (.iload_n 1, 1) := by decide +kernel
theorem dX8_takesNumber_123 : decode cX8_takesNumber 123 = .ok (.ifCond .eq 11, 3) := by decide +kernel
theorem dX8_takesNumber_126 : decode cX8_takesNumber 126 = .ok (.aload_n 0, 1) := by decide +kernel
theorem dX8_takesNumber_127 : decode cX8_takesNumber 127 = .ok (.getfield 144, 3) := by decide +kernel
theorem dX8_takesNumber_130 : decode cX8_takesNumber 130 = .ok (.ineg, 1) := by decide +kernel
theorem dX8_takesNumber_131 : decode cX8_takesNumber 131 = .ok (.goto 7, 3) := by decide +kernel
theorem dX8_takesNumber_134 : decode cX8_takesNumber 134 = .ok (.aload_n 0, 1) := by decide +kernel
theorem dX8_takesNumber_135 : decode cX8_takesNumber 135 = .ok (.getfield 144, 3) := by decide +kernel
theorem dX8_takesNumber_138 : decode cX8_takesNumber 138 = .ok (.putfield 144, 3) := by decide +kernel
theorem dX8_takesNumber_141 : decode cX8_takesNumber 141 = .ok (.iconst 1, 1) := by decide +kernel
theorem dX8_takesNumber_142 : decode cX8_takesNumber 142 = .ok (.ireturn, 1) := by decide +kernel
theorem dX8_kindOf_0 : decode cX8_kindOf 0 = .ok (.iload_n 0, 1) := by decide +kernel
theorem dX8_kindOf_1 : decode cX8_kindOf 1 = .ok (.bipush 108, 2) := by decide +kernel
theorem dX8_kindOf_3 : decode cX8_kindOf 3 = .ok (.if_icmp .ne 7, 3) := by decide +kernel
theorem dX8_kindOf_6 : decode cX8_kindOf 6 = .ok (.iconst 0, 1) := by decide +kernel
theorem dX8_kindOf_7 : decode cX8_kindOf 7 = .ok (.goto 44, 3) := by decide +kernel
theorem dX8_kindOf_10 : decode cX8_kindOf 10 = .ok (.iload_n 0, 1) := by decide +kernel
theorem dX8_kindOf_11 : decode cX8_kindOf 11 = .ok (.bipush 102, 2) := by decide +kernel
theorem dX8_kindOf_13 : decode cX8_kindOf 13 = .ok (.if_icmp .ne 7, 3) := by decide +kernel
theorem dX8_kindOf_16 : decode cX8_kindOf 16 = .ok (.iconst 1, 1) := by decide +kernel
theorem dX8_kindOf_17 : decode cX8_kindOf 17 = .ok (.goto 34, 3) := by decide +kernel
theorem dX8_kindOf_20 : decode cX8_kindOf 20 = .ok (.iload_n 0, 1) := by decide +kernel
theorem dX8_kindOf_21 : decode cX8_kindOf 21 = .ok (.bipush 101, 2) := by decide +kernel
theorem dX8_kindOf_23 : decode cX8_kindOf 23 = .ok (.if_icmp .ne 7, 3) := by decide +kernel
theorem dX8_kindOf_26 : decode cX8_kindOf 26 = .ok (.iconst 2, 1) := by decide +kernel
theorem dX8_kindOf_27 : decode cX8_kindOf 27 = .ok (.goto 24, 3) := by decide +kernel
theorem dX8_kindOf_30 : decode cX8_kindOf 30 = .ok (.iload_n 0, 1) := by decide +kernel
theorem dX8_kindOf_31 : decode cX8_kindOf 31 = .ok (.bipush 99, 2) := by decide +kernel
theorem dX8_kindOf_33 : decode cX8_kindOf 33 = .ok (.if_icmp .ne 7, 3) := by decide +kernel
theorem dX8_kindOf_36 : decode cX8_kindOf 36 = .ok (.iconst 3, 1) := by decide +kernel
theorem dX8_kindOf_37 : decode cX8_kindOf 37 = .ok (.goto 14, 3) := by decide +kernel
theorem dX8_kindOf_40 : decode cX8_kindOf 40 = .ok (.iload_n 0, 1) := by decide +kernel
theorem dX8_kindOf_41 : decode cX8_kindOf 41 = .ok (.bipush 114, 2) := by decide +kernel
theorem dX8_kindOf_43 : decode cX8_kindOf 43 = .ok (.if_icmp .ne 7, 3) := by decide +kernel
theorem dX8_kindOf_46 : decode cX8_kindOf 46 = .ok (.iconst 4, 1) := by decide +kernel
theorem dX8_kindOf_47 : decode cX8_kindOf 47 = .ok (.goto 4, 3) := by decide +kernel
theorem dX8_kindOf_50 : decode cX8_kindOf 50 = .ok (.iconst (-1), 1) := by decide +kernel
theorem dX8_kindOf_51 : decode cX8_kindOf 51 = .ok (.ireturn, 1) := by decide +kernel
theorem dX8_takesPiece_0 : decode cX8_takesPiece 0 = .ok (.aload_n 0, 1) := by decide +kernel
theorem dX8_takesPiece_1 : decode cX8_takesPiece 1 = .ok (.invokevirtual 138, 3) := by decide +kernel
theorem dX8_takesPiece_4 : decode cX8_takesPiece 4 = .ok (.invokestatic 147, 3) := by decide +kernel
theorem dX8_takesPiece_7 : decode cX8_takesPiece 7 = .ok (.istore_n 2, 1) := by decide +kernel
theorem dX8_takesPiece_8 : decode cX8_takesPiece 8 = .ok (.iload_n 2, 1) := by decide +kernel
theorem dX8_takesPiece_9 : decode cX8_takesPiece 9 = .ok (.ifCond .ge 5, 3) := by decide +kernel
theorem dX8_takesPiece_12 : decode cX8_takesPiece 12 = .ok (.iconst 0, 1) := by decide +kernel
theorem dX8_takesPiece_13 : decode cX8_takesPiece 13 = .ok (.ireturn, 1) := by decide +kernel
theorem dX8_takesPiece_14 : decode cX8_takesPiece 14 = .ok (.aload_n 0, 1) := by decide +kernel
theorem dX8_takesPiece_15 : decode cX8_takesPiece 15 = .ok (.getfield 131, 3) := by decide +kernel
theorem dX8_takesPiece_18 : decode cX8_takesPiece 18 = .ok (.istore_n 3, 1) := by decide +kernel
theorem dX8_takesPiece_19 : decode cX8_takesPiece 19 = .ok (.aload_n 0, 1) := by decide +kernel
theorem dX8_takesPiece_20 : decode cX8_takesPiece 20 = .ok (.dup, 1) := by decide +kernel
theorem dX8_takesPiece_21 : decode cX8_takesPiece 21 = .ok (.getfield 131, 3) := by decide +kernel
theorem dX8_takesPiece_24 : decode cX8_takesPiece 24 = .ok (.iconst 1, 1) := by decide +kernel
theorem dX8_takesPiece_25 : decode cX8_takesPiece 25 = .ok (.iadd, 1) := by decide +kernel
theorem dX8_takesPiece_26 : decode cX8_takesPiece 26 = .ok (.putfield 131, 3) := by decide +kernel
theorem dX8_takesPiece_29 : decode cX8_takesPiece 29 = .ok (.aload_n 0, 1) := by decide +kernel
theorem dX8_takesPiece_30 : decode cX8_takesPiece 30 = .ok (.getfield 23, 3) := by decide +kernel
theorem dX8_takesPiece_33 : decode cX8_takesPiece 33 = .ok (.iconst 4, 1) := by decide +kernel
theorem dX8_takesPiece_34 : decode cX8_takesPiece 34 = .ok (.iload_n 1, 1) := by decide +kernel
theorem dX8_takesPiece_35 : decode cX8_takesPiece 35 = .ok (.imul, 1) := by decide +kernel
theorem dX8_takesPiece_36 : decode cX8_takesPiece 36 = .ok (.iload_n 2, 1) := by decide +kernel
theorem dX8_takesPiece_37 : decode cX8_takesPiece 37 = .ok (.iastore, 1) := by decide +kernel
theorem dX8_takesPiece_38 : decode cX8_takesPiece 38 = .ok (.iconst 1, 1) := by decide +kernel
theorem dX8_takesPiece_39 : decode cX8_takesPiece 39 = .ok (.istore 4, 2) := by decide +kernel
theorem dX8_takesPiece_41 : decode cX8_takesPiece 41 = .ok (.iload 4, 2) := by decide +kernel
theorem dX8_takesPiece_43 : decode cX8_takesPiece 43 = .ok (.iconst 4, 1) := by decide +kernel
theorem dX8_takesPiece_44 : decode cX8_takesPiece 44 = .ok (.if_icmp .ge 60, 3) := by decide +kernel
theorem dX8_takesPiece_47 : decode cX8_takesPiece 47 = .ok (.iload 4, 2) := by decide +kernel
theorem dX8_takesPiece_49 : decode cX8_takesPiece 49 = .ok (.iconst 1, 1) := by decide +kernel
theorem dX8_takesPiece_50 : decode cX8_takesPiece 50 = .ok (.if_icmp .le 24, 3) := by decide +kernel
theorem dX8_takesPiece_53 : decode cX8_takesPiece 53 = .ok (.aload_n 0, 1) := by decide +kernel
theorem dX8_takesPiece_54 : decode cX8_takesPiece 54 = .ok (.invokevirtual 138, 3) := by decide +kernel
theorem dX8_takesPiece_57 : decode cX8_takesPiece 57 = .ok (.bipush 44, 2) := by decide +kernel
theorem dX8_takesPiece_59 : decode cX8_takesPiece 59 = .ok (.if_icmp .eq 5, 3) := by decide +kernel
theorem dX8_takesPiece_62 : decode cX8_takesPiece 62 = .ok (.iconst 0, 1) := by decide +kernel
theorem dX8_takesPiece_63 : decode cX8_takesPiece 63 = .ok (.ireturn, 1) := by decide +kernel
theorem dX8_takesPiece_64 : decode cX8_takesPiece 64 = .ok (.aload_n 0, 1) := by decide +kernel
theorem dX8_takesPiece_65 : decode cX8_takesPiece 65 = .ok (.dup, 1) := by decide +kernel
theorem dX8_takesPiece_66 : decode cX8_takesPiece 66 = .ok (.getfield 131, 3) := by decide +kernel
theorem dX8_takesPiece_69 : decode cX8_takesPiece 69 = .ok (.iconst 1, 1) := by decide +kernel
theorem dX8_takesPiece_70 : decode cX8_takesPiece 70 = .ok (.iadd, 1) := by decide +kernel
theorem dX8_takesPiece_71 : decode cX8_takesPiece 71 = .ok (.putfield 131, 3) := by decide +kernel
theorem dX8_takesPiece_74 : decode cX8_takesPiece 74 = .ok (.aload_n 0, 1) := by decide +kernel
theorem dX8_takesPiece_75 : decode cX8_takesPiece 75 = .ok (.invokevirtual 150, 3) := by decide +kernel
theorem dX8_takesPiece_78 : decode cX8_takesPiece 78 = .ok (.ifCond .ne 5, 3) := by decide +kernel
theorem dX8_takesPiece_81 : decode cX8_takesPiece 81 = .ok (.iconst 0, 1) := by decide +kernel
theorem dX8_takesPiece_82 : decode cX8_takesPiece 82 = .ok (.ireturn, 1) := by decide +kernel
theorem dX8_takesPiece_83 : decode cX8_takesPiece 83 = .ok (.aload_n 0, 1) := by decide +kernel
theorem dX8_takesPiece_84 : decode cX8_takesPiece 84 = .ok (.getfield 23, 3) := by decide +kernel
theorem dX8_takesPiece_87 : decode cX8_takesPiece 87 = .ok (.iconst 4, 1) := by decide +kernel
theorem dX8_takesPiece_88 : decode cX8_takesPiece 88 = .ok (.iload_n 1, 1) := by decide +kernel
theorem dX8_takesPiece_89 : decode cX8_takesPiece 89 = .ok (.imul, 1) := by decide +kernel
theorem dX8_takesPiece_90 : decode cX8_takesPiece 90 = .ok (.iload 4, 2) := by decide +kernel
theorem dX8_takesPiece_92 : decode cX8_takesPiece 92 = .ok (.iadd, 1) := by decide +kernel
theorem dX8_takesPiece_93 : decode cX8_takesPiece 93 = .ok (.aload_n 0, 1) := by decide +kernel
theorem dX8_takesPiece_94 : decode cX8_takesPiece 94 = .ok (.getfield 144, 3) := by decide +kernel
theorem dX8_takesPiece_97 : decode cX8_takesPiece 97 = .ok (.iastore, 1) := by decide +kernel
theorem dX8_takesPiece_98 : decode cX8_takesPiece 98 = .ok (.iinc 4 1, 3) := by decide +kernel
theorem dX8_takesPiece_101 : decode cX8_takesPiece 101 = .ok (.goto (-60), 3) := by decide +kernel
theorem dX8_takesPiece_104 : decode cX8_takesPiece 104 = .ok (.iload_n 2, 1) := by decide +kernel
theorem dX8_takesPiece_105 : decode cX8_takesPiece 105 = .ok (.aload_n 0, 1) := by decide +kernel
theorem dX8_takesPiece_106 : decode cX8_takesPiece 106 = .ok (.getfield 23, 3) := by decide +kernel
theorem dX8_takesPiece_109 : decode cX8_takesPiece 109 = .ok (.iconst 4, 1) := by decide +kernel
theorem dX8_takesPiece_110 : decode cX8_takesPiece 110 = .ok (.iload_n 1, 1) := by decide +kernel
theorem dX8_takesPiece_111 : decode cX8_takesPiece 111 = .ok (.imul, 1) := by decide +kernel
theorem dX8_takesPiece_112 : decode cX8_takesPiece 112 = .ok (.iconst 1, 1) := by decide +kernel
theorem dX8_takesPiece_113 : decode cX8_takesPiece 113 = .ok (.iadd, 1) := by decide +kernel
theorem dX8_takesPiece_114 : decode cX8_takesPiece 114 = .ok (.iaload, 1) := by decide +kernel
theorem dX8_takesPiece_115 : decode cX8_takesPiece 115 = .ok (.aload_n 0, 1) := by decide +kernel
theorem dX8_takesPiece_116 : decode cX8_takesPiece 116 = .ok (.getfield 23, 3) := by decide +kernel
theorem dX8_takesPiece_119 : decode cX8_takesPiece 119 = .ok (.iconst 4, 1) := by decide +kernel
theorem dX8_takesPiece_120 : decode cX8_takesPiece 120 = .ok (.iload_n 1, 1) := by decide +kernel
theorem dX8_takesPiece_121 : decode cX8_takesPiece 121 = .ok (.imul, 1) := by decide +kernel
theorem dX8_takesPiece_122 : decode cX8_takesPiece 122 = .ok (.iconst 2, 1) := by decide +kernel
theorem dX8_takesPiece_123 : decode cX8_takesPiece 123 = .ok (.iadd, 1) := by decide +kernel
theorem dX8_takesPiece_124 : decode cX8_takesPiece 124 = .ok (.iaload, 1) := by decide +kernel
theorem dX8_takesPiece_125 : decode cX8_takesPiece 125 = .ok (.aload_n 0, 1) := by decide +kernel
theorem dX8_takesPiece_126 : decode cX8_takesPiece 126 = .ok (.getfield 23, 3) := by decide +kernel
theorem dX8_takesPiece_129 : decode cX8_takesPiece 129 = .ok (.iconst 4, 1) := by decide +kernel
theorem dX8_takesPiece_130 : decode cX8_takesPiece 130 = .ok (.iload_n 1, 1) := by decide +kernel
theorem dX8_takesPiece_131 : decode cX8_takesPiece 131 = .ok (.imul, 1) := by decide +kernel
theorem dX8_takesPiece_132 : decode cX8_takesPiece 132 = .ok (.iconst 3, 1) := by decide +kernel
theorem dX8_takesPiece_133 : decode cX8_takesPiece 133 = .ok (.iadd, 1) := by decide +kernel
theorem dX8_takesPiece_134 : decode cX8_takesPiece 134 = .ok (.iaload, 1) := by decide +kernel
theorem dX8_takesPiece_135 : decode cX8_takesPiece 135 = .ok (.invokestatic 154, 3) := by decide +kernel
theorem dX8_takesPiece_138 : decode cX8_takesPiece 138 = .ok (.ifCond .ne 10, 3) := by decide +kernel
theorem dX8_takesPiece_141 : decode cX8_takesPiece 141 = .ok (.aload_n 0, 1) := by decide +kernel
theorem dX8_takesPiece_142 : decode cX8_takesPiece 142 = .ok (.iload_n 3, 1) := by decide +kernel
theorem dX8_takesPiece_143 : decode cX8_takesPiece 143 = .ok (.putfield 131, 3) := by decide +kernel
theorem dX8_takesPiece_146 : decode cX8_takesPiece 146 = .ok (.iconst 0, 1) := by decide +kernel
theorem dX8_takesPiece_147 : decode cX8_takesPiece 147 = .ok (.ireturn, 1) := by decide +kernel
theorem dX8_takesPiece_148 : decode cX8_takesPiece 148 = .ok (.iconst 1, 1) := by decide +kernel
theorem dX8_takesPiece_149 : decode cX8_takesPiece 149 = .ok (.ireturn, 1) := by decide +kernel
theorem dX8_takesPlan_0 : decode cX8_takesPlan 0 = .ok (.iconst 0, 1) := by decide +kernel
theorem dX8_takesPlan_1 : decode cX8_takesPlan 1 = .ok (.istore_n 1, 1) := by decide +kernel
theorem dX8_takesPlan_2 : decode cX8_takesPlan 2 = .ok (.aload_n 0, 1) := by decide +kernel
theorem dX8_takesPlan_3 : decode cX8_takesPlan 3 = .ok (.invokevirtual 138, 3) := by decide +kernel
theorem dX8_takesPlan_6 : decode cX8_takesPlan 6 = .ok (.ifCond .ge 5, 3) := by decide +kernel
theorem dX8_takesPlan_9 : decode cX8_takesPlan 9 = .ok (.iconst 0, 1) := by decide +kernel
theorem dX8_takesPlan_10 : decode cX8_takesPlan 10 = .ok (.ireturn, 1) := by decide +kernel
theorem dX8_takesPlan_11 : decode cX8_takesPlan 11 = .ok (.iconst 1, 1) := by decide +kernel
theorem dX8_takesPlan_12 : decode cX8_takesPlan 12 = .ok (.istore_n 2, 1) := by decide +kernel
theorem dX8_takesPlan_13 : decode cX8_takesPlan 13 = .ok (.iload_n 2, 1) := by decide +kernel
theorem dX8_takesPlan_14 : decode cX8_takesPlan 14 = .ok (.ifCond .eq 58, 3) := by decide +kernel
theorem dX8_takesPlan_17 : decode cX8_takesPlan 17 = .ok (.aload_n 0, 1) := by decide +kernel
theorem dX8_takesPlan_18 : decode cX8_takesPlan 18 = .ok (.iload_n 1, 1) := by decide +kernel
theorem dX8_takesPlan_19 : decode cX8_takesPlan 19 = .ok (.invokevirtual 158, 3) := by decide +kernel
theorem dX8_takesPlan_22 : decode cX8_takesPlan 22 = .ok (.ifCond .ne 5, 3) := by decide +kernel
theorem dX8_takesPlan_25 : decode cX8_takesPlan 25 = .ok (.iconst (-1), 1) := by decide +kernel
theorem dX8_takesPlan_26 : decode cX8_takesPlan 26 = .ok (.ireturn, 1) := by decide +kernel
theorem dX8_takesPlan_27 : decode cX8_takesPlan 27 = .ok (.iinc 1 1, 3) := by decide +kernel
theorem dX8_takesPlan_30 : decode cX8_takesPlan 30 = .ok (.aload_n 0, 1) := by decide +kernel
theorem dX8_takesPlan_31 : decode cX8_takesPlan 31 = .ok (.invokevirtual 138, 3) := by decide +kernel
theorem dX8_takesPlan_34 : decode cX8_takesPlan 34 = .ok (.bipush 59, 2) := by decide +kernel
theorem dX8_takesPlan_36 : decode cX8_takesPlan 36 = .ok (.if_icmp .ne 13, 3) := by decide +kernel
theorem dX8_takesPlan_39 : decode cX8_takesPlan 39 = .ok (.iload_n 1, 1) := by decide +kernel
theorem dX8_takesPlan_40 : decode cX8_takesPlan 40 = .ok (.bipush 12, 2) := by decide +kernel
theorem dX8_takesPlan_42 : decode cX8_takesPlan 42 = .ok (.if_icmp .ge 7, 3) := by decide +kernel
theorem dX8_takesPlan_45 : decode cX8_takesPlan 45 = .ok (.iconst 1, 1) := by decide +kernel
theorem dX8_takesPlan_46 : decode cX8_takesPlan 46 = .ok (.goto 4, 3) := by decide +kernel
theorem dX8_takesPlan_49 : decode cX8_takesPlan 49 = .ok (.iconst 0, 1) := by decide +kernel
theorem dX8_takesPlan_50 : decode cX8_takesPlan 50 = .ok (.istore_n 2, 1) := by decide +kernel
theorem dX8_takesPlan_51 : decode cX8_takesPlan 51 = .ok (.aload_n 0, 1) := by decide +kernel
theorem dX8_takesPlan_52 : decode cX8_takesPlan 52 = .ok (.dup, 1) := by decide +kernel
theorem dX8_takesPlan_53 : decode cX8_takesPlan 53 = .ok (.getfield 131, 3) := by decide +kernel
theorem dX8_takesPlan_56 : decode cX8_takesPlan 56 = .ok (.iload_n 2, 1) := by decide +kernel
theorem dX8_takesPlan_57 : decode cX8_takesPlan 57 = .ok (.ifCond .eq 7, 3) := by decide +kernel
theorem dX8_takesPlan_60 : decode cX8_takesPlan 60 = .ok (.iconst 1, 1) := by decide +kernel
theorem dX8_takesPlan_61 : decode cX8_takesPlan 61 = .ok (.goto 4, 3) := by decide +kernel
theorem dX8_takesPlan_64 : decode cX8_takesPlan 64 = .ok (.iconst 0, 1) := by decide +kernel
theorem dX8_takesPlan_65 : decode cX8_takesPlan 65 = .ok (.iadd, 1) := by decide +kernel
theorem dX8_takesPlan_66 : decode cX8_takesPlan 66 = .ok (.putfield 131, 3) := by decide +kernel
theorem dX8_takesPlan_69 : decode cX8_takesPlan 69 = .ok (.goto (-56), 3) := by decide +kernel
theorem dX8_takesPlan_72 : decode cX8_takesPlan 72 = .ok (.aload_n 0, 1) := by decide +kernel
theorem dX8_takesPlan_73 : decode cX8_takesPlan 73 = .ok (.invokevirtual 138, 3) := by decide +kernel
theorem dX8_takesPlan_76 : decode cX8_takesPlan 76 = .ok (.ifCond .ge 7, 3) := by decide +kernel
theorem dX8_takesPlan_79 : decode cX8_takesPlan 79 = .ok (.iload_n 1, 1) := by decide +kernel
theorem dX8_takesPlan_80 : decode cX8_takesPlan 80 = .ok (.goto 4, 3) := by decide +kernel
theorem dX8_takesPlan_83 : decode cX8_takesPlan 83 = .ok (.iconst (-1), 1) := by decide +kernel
theorem dX8_takesPlan_84 : decode cX8_takesPlan 84 = .ok (.ireturn, 1) := by decide +kernel
theorem dX8_plan_0 : decode cX8_plan 0 = .ok (.aload_n 0, 1) := by decide +kernel
theorem dX8_plan_1 : decode cX8_plan 1 = .ok (.iconst 0, 1) := by decide +kernel
theorem dX8_plan_2 : decode cX8_plan 2 = .ok (.putfield 131, 3) := by decide +kernel
theorem dX8_plan_5 : decode cX8_plan 5 = .ok (.aload_n 0, 1) := by decide +kernel
theorem dX8_plan_6 : decode cX8_plan 6 = .ok (.invokevirtual 161, 3) := by decide +kernel
theorem dX8_plan_9 : decode cX8_plan 9 = .ok (.istore_n 1, 1) := by decide +kernel
theorem dX8_plan_10 : decode cX8_plan 10 = .ok (.aload_n 0, 1) := by decide +kernel
theorem dX8_plan_11 : decode cX8_plan 11 = .ok (.getfield 127, 3) := by decide +kernel
theorem dX8_plan_14 : decode cX8_plan 14 = .ok (.istore_n 2, 1) := by decide +kernel
theorem dX8_plan_15 : decode cX8_plan 15 = .ok (.aload_n 0, 1) := by decide +kernel
theorem dX8_plan_16 : decode cX8_plan 16 = .ok (.iconst 0, 1) := by decide +kernel
theorem dX8_plan_17 : decode cX8_plan 17 = .ok (.putfield 127, 3) := by decide +kernel
theorem dX8_plan_20 : decode cX8_plan 20 = .ok (.iload_n 1, 1) := by decide +kernel
theorem dX8_plan_21 : decode cX8_plan 21 = .ok (.ifCond .ge 23, 3) := by decide +kernel
theorem dX8_plan_24 : decode cX8_plan 24 = .ok (.ldc 164, 2) := by decide +kernel
theorem dX8_plan_26 : decode cX8_plan 26 = .ok (.aload_n 0, 1) := by decide +kernel
theorem dX8_plan_27 : decode cX8_plan 27 = .ok (.getfield 131, 3) := by decide +kernel
theorem dX8_plan_30 : decode cX8_plan 30 = .ok (.iload_n 2, 1) := by decide +kernel
theorem dX8_plan_31 : decode cX8_plan 31 = .ok (.if_icmp .ge 10, 3) := by decide +kernel
theorem dX8_plan_34 : decode cX8_plan 34 = .ok (.aload_n 0, 1) := by decide +kernel
theorem dX8_plan_35 : decode cX8_plan 35 = .ok (.getfield 131, 3) := by decide +kernel
theorem dX8_plan_38 : decode cX8_plan 38 = .ok (.goto 4, 3) := by decide +kernel
theorem dX8_plan_41 : decode cX8_plan 41 = .ok (.iload_n 2, 1) := by decide +kernel
theorem dX8_plan_42 : decode cX8_plan 42 = .ok (.isub, 1) := by decide +kernel
theorem dX8_plan_43 : decode cX8_plan 43 = .ok (.ireturn, 1) := by decide +kernel
theorem dX8_plan_44 : decode cX8_plan 44 = .ok (.aload_n 0, 1) := by decide +kernel
theorem dX8_plan_45 : decode cX8_plan 45 = .ok (.getfield 7, 3) := by decide +kernel
theorem dX8_plan_48 : decode cX8_plan 48 = .ok (.iconst 4, 1) := by decide +kernel
theorem dX8_plan_49 : decode cX8_plan 49 = .ok (.iaload, 1) := by decide +kernel
theorem dX8_plan_50 : decode cX8_plan 50 = .ok (.istore_n 3, 1) := by decide +kernel
theorem dX8_plan_51 : decode cX8_plan 51 = .ok (.iconst 0, 1) := by decide +kernel
theorem dX8_plan_52 : decode cX8_plan 52 = .ok (.istore 4, 2) := by decide +kernel
theorem dX8_plan_54 : decode cX8_plan 54 = .ok (.iload 4, 2) := by decide +kernel
theorem dX8_plan_56 : decode cX8_plan 56 = .ok (.bipush 61, 2) := by decide +kernel
theorem dX8_plan_58 : decode cX8_plan 58 = .ok (.if_icmp .ge 17, 3) := by decide +kernel
theorem dX8_plan_61 : decode cX8_plan 61 = .ok (.aload_n 0, 1) := by decide +kernel
theorem dX8_plan_62 : decode cX8_plan 62 = .ok (.getfield 7, 3) := by decide +kernel
theorem dX8_plan_65 : decode cX8_plan 65 = .ok (.iload 4, 2) := by decide +kernel
theorem dX8_plan_67 : decode cX8_plan 67 = .ok (.iconst 0, 1) := by decide +kernel
theorem dX8_plan_68 : decode cX8_plan 68 = .ok (.iastore, 1) := by decide +kernel
theorem dX8_plan_69 : decode cX8_plan 69 = .ok (.iinc 4 1, 3) := by decide +kernel
theorem dX8_plan_72 : decode cX8_plan 72 = .ok (.goto (-18), 3) := by decide +kernel
theorem dX8_plan_75 : decode cX8_plan 75 = .ok (.aload_n 0, 1) := by decide +kernel
theorem dX8_plan_76 : decode cX8_plan 76 = .ok (.getfield 7, 3) := by decide +kernel
theorem dX8_plan_79 : decode cX8_plan 79 = .ok (.iconst 4, 1) := by decide +kernel
theorem dX8_plan_80 : decode cX8_plan 80 = .ok (.iload_n 3, 1) := by decide +kernel
theorem dX8_plan_81 : decode cX8_plan 81 = .ok (.iastore, 1) := by decide +kernel
theorem dX8_plan_82 : decode cX8_plan 82 = .ok (.aload_n 0, 1) := by decide +kernel
theorem dX8_plan_83 : decode cX8_plan 83 = .ok (.getfield 7, 3) := by decide +kernel
theorem dX8_plan_86 : decode cX8_plan 86 = .ok (.iconst 5, 1) := by decide +kernel
theorem dX8_plan_87 : decode cX8_plan 87 = .ok (.iconst (-1), 1) := by decide +kernel
theorem dX8_plan_88 : decode cX8_plan 88 = .ok (.iastore, 1) := by decide +kernel
theorem dX8_plan_89 : decode cX8_plan 89 = .ok (.aload_n 0, 1) := by decide +kernel
theorem dX8_plan_90 : decode cX8_plan 90 = .ok (.getfield 7, 3) := by decide +kernel
theorem dX8_plan_93 : decode cX8_plan 93 = .ok (.bipush 12, 2) := by decide +kernel
theorem dX8_plan_95 : decode cX8_plan 95 = .ok (.iload_n 1, 1) := by decide +kernel
theorem dX8_plan_96 : decode cX8_plan 96 = .ok (.iastore, 1) := by decide +kernel
theorem dX8_plan_97 : decode cX8_plan 97 = .ok (.iconst 0, 1) := by decide +kernel
theorem dX8_plan_98 : decode cX8_plan 98 = .ok (.istore 4, 2) := by decide +kernel
theorem dX8_plan_100 : decode cX8_plan 100 = .ok (.iload 4, 2) := by decide +kernel
theorem dX8_plan_102 : decode cX8_plan 102 = .ok (.iconst 4, 1) := by decide +kernel
theorem dX8_plan_103 : decode cX8_plan 103 = .ok (.iload_n 1, 1) := by decide +kernel
theorem dX8_plan_104 : decode cX8_plan 104 = .ok (.imul, 1) := by decide +kernel
theorem dX8_plan_105 : decode cX8_plan 105 = .ok (.if_icmp .ge 26, 3) := by decide +kernel
theorem dX8_plan_108 : decode cX8_plan 108 = .ok (.aload_n 0, 1) := by decide +kernel
theorem dX8_plan_109 : decode cX8_plan 109 = .ok (.getfield 7, 3) := by decide +kernel
theorem dX8_plan_112 : decode cX8_plan 112 = .ok (.bipush 13, 2) := by decide +kernel
theorem dX8_plan_114 : decode cX8_plan 114 = .ok (.iload 4, 2) := by decide +kernel
theorem dX8_plan_116 : decode cX8_plan 116 = .ok (.iadd, 1) := by decide +kernel
theorem dX8_plan_117 : decode cX8_plan 117 = .ok (.aload_n 0, 1) := by decide +kernel
theorem dX8_plan_118 : decode cX8_plan 118 = .ok (.getfield 23, 3) := by decide +kernel
theorem dX8_plan_121 : decode cX8_plan 121 = .ok (.iload 4, 2) := by decide +kernel
theorem dX8_plan_123 : decode cX8_plan 123 = .ok (.iaload, 1) := by decide +kernel
theorem dX8_plan_124 : decode cX8_plan 124 = .ok (.iastore, 1) := by decide +kernel
theorem dX8_plan_125 : decode cX8_plan 125 = .ok (.iinc 4 1, 3) := by decide +kernel
theorem dX8_plan_128 : decode cX8_plan 128 = .ok (.goto (-28), 3) := by decide +kernel
theorem dX8_plan_131 : decode cX8_plan 131 = .ok (.aload_n 0, 1) := by decide +kernel
theorem dX8_plan_132 : decode cX8_plan 132 = .ok (.iconst 0, 1) := by decide +kernel
theorem dX8_plan_133 : decode cX8_plan 133 = .ok (.putfield 42, 3) := by decide +kernel
theorem dX8_plan_136 : decode cX8_plan 136 = .ok (.iload_n 1, 1) := by decide +kernel
theorem dX8_plan_137 : decode cX8_plan 137 = .ok (.ireturn, 1) := by decide +kernel
theorem dX8_lays_0 : decode cX8_lays 0 = .ok (.aload_n 0, 1) := by decide +kernel
theorem dX8_lays_1 : decode cX8_lays 1 = .ok (.getfield 7, 3) := by decide +kernel
theorem dX8_lays_4 : decode cX8_lays 4 = .ok (.iload_n 1, 1) := by decide +kernel
theorem dX8_lays_5 : decode cX8_lays 5 = .ok (.iload_n 2, 1) := by decide +kernel
theorem dX8_lays_6 : decode cX8_lays 6 = .ok (.iastore, 1) := by decide +kernel
theorem dX8_lays_7 : decode cX8_lays 7 = .ok (.aload_n 0, 1) := by decide +kernel
theorem dX8_lays_8 : decode cX8_lays 8 = .ok (.getfield 7, 3) := by decide +kernel
theorem dX8_lays_11 : decode cX8_lays 11 = .ok (.iload_n 1, 1) := by decide +kernel
theorem dX8_lays_12 : decode cX8_lays 12 = .ok (.iconst 1, 1) := by decide +kernel
theorem dX8_lays_13 : decode cX8_lays 13 = .ok (.iadd, 1) := by decide +kernel
theorem dX8_lays_14 : decode cX8_lays 14 = .ok (.iload_n 3, 1) := by decide +kernel
theorem dX8_lays_15 : decode cX8_lays 15 = .ok (.iastore, 1) := by decide +kernel
theorem dX8_lays_16 : decode cX8_lays 16 = .ok (.aload_n 0, 1) := by decide +kernel
theorem dX8_lays_17 : decode cX8_lays 17 = .ok (.getfield 7, 3) := by decide +kernel
theorem dX8_lays_20 : decode cX8_lays 20 = .ok (.iload_n 1, 1) := by decide +kernel
theorem dX8_lays_21 : decode cX8_lays 21 = .ok (.iconst 2, 1) := by decide +kernel
theorem dX8_lays_22 : decode cX8_lays 22 = .ok (.iadd, 1) := by decide +kernel
theorem dX8_lays_23 : decode cX8_lays 23 = .ok (.iload 4, 2) := by decide +kernel
theorem dX8_lays_25 : decode cX8_lays 25 = .ok (.iastore, 1) := by decide +kernel
theorem dX8_lays_26 : decode cX8_lays 26 = .ok (.aload_n 0, 1) := by decide +kernel
theorem dX8_lays_27 : decode cX8_lays 27 = .ok (.getfield 7, 3) := by decide +kernel
theorem dX8_lays_30 : decode cX8_lays 30 = .ok (.iload_n 1, 1) := by decide +kernel
theorem dX8_lays_31 : decode cX8_lays 31 = .ok (.iconst 3, 1) := by decide +kernel
theorem dX8_lays_32 : decode cX8_lays 32 = .ok (.iadd, 1) := by decide +kernel
theorem dX8_lays_33 : decode cX8_lays 33 = .ok (.iload 5, 2) := by decide +kernel
theorem dX8_lays_35 : decode cX8_lays 35 = .ok (.iastore, 1) := by decide +kernel
theorem dX8_lays_36 : decode cX8_lays 36 = .ok (.return_, 1) := by decide +kernel
theorem dX8_push_0 : decode cX8_push 0 = .ok (.iload_n 1, 1) := by decide +kernel
theorem dX8_push_1 : decode cX8_push 1 = .ok (.iload_n 2, 1) := by decide +kernel
theorem dX8_push_2 : decode cX8_push 2 = .ok (.iload_n 3, 1) := by decide +kernel
theorem dX8_push_3 : decode cX8_push 3 = .ok (.iload 4, 2) := by decide +kernel
theorem dX8_push_5 : decode cX8_push 5 = .ok (.invokestatic 154, 3) := by decide +kernel
theorem dX8_push_8 : decode cX8_push 8 = .ok (.ifCond .ne 6, 3) := by decide +kernel
theorem dX8_push_11 : decode cX8_push 11 = .ok (.ldc 112, 2) := by decide +kernel
theorem dX8_push_13 : decode cX8_push 13 = .ok (.ireturn, 1) := by decide +kernel
theorem dX8_push_14 : decode cX8_push 14 = .ok (.aload_n 0, 1) := by decide +kernel
theorem dX8_push_15 : decode cX8_push 15 = .ok (.getfield 7, 3) := by decide +kernel
theorem dX8_push_18 : decode cX8_push 18 = .ok (.bipush 12, 2) := by decide +kernel
theorem dX8_push_20 : decode cX8_push 20 = .ok (.iaload, 1) := by decide +kernel
theorem dX8_push_21 : decode cX8_push 21 = .ok (.bipush 12, 2) := by decide +kernel
theorem dX8_push_23 : decode cX8_push 23 = .ok (.if_icmp .ne 6, 3) := by decide +kernel
theorem dX8_push_26 : decode cX8_push 26 = .ok (.ldc 130, 2) := by decide +kernel
theorem dX8_push_28 : decode cX8_push 28 = .ok (.ireturn, 1) := by decide +kernel
theorem dX8_push_29 : decode cX8_push 29 = .ok (.aload_n 0, 1) := by decide +kernel
theorem dX8_push_30 : decode cX8_push 30 = .ok (.invokevirtual 165, 3) := by decide +kernel
theorem dX8_push_33 : decode cX8_push 33 = .ok (.aload_n 0, 1) := by decide +kernel
theorem dX8_push_34 : decode cX8_push 34 = .ok (.bipush 13, 2) := by decide +kernel
theorem dX8_push_36 : decode cX8_push 36 = .ok (.iconst 4, 1) := by decide +kernel
theorem dX8_push_37 : decode cX8_push 37 = .ok (.aload_n 0, 1) := by decide +kernel
theorem dX8_push_38 : decode cX8_push 38 = .ok (.getfield 7, 3) := by decide +kernel
theorem dX8_push_41 : decode cX8_push 41 = .ok (.bipush 12, 2) := by decide +kernel
theorem dX8_push_43 : decode cX8_push 43 = .ok (.iaload, 1) := by decide +kernel
theorem dX8_push_44 : decode cX8_push 44 = .ok (.imul, 1) := by decide +kernel
theorem dX8_push_45 : decode cX8_push 45 = .ok (.iadd, 1) := by decide +kernel
theorem dX8_push_46 : decode cX8_push 46 = .ok (.iload_n 1, 1) := by decide +kernel
theorem dX8_push_47 : decode cX8_push 47 = .ok (.iload_n 2, 1) := by decide +kernel
theorem dX8_push_48 : decode cX8_push 48 = .ok (.iload_n 3, 1) := by decide +kernel
theorem dX8_push_49 : decode cX8_push 49 = .ok (.iload 4, 2) := by decide +kernel
theorem dX8_push_51 : decode cX8_push 51 = .ok (.invokevirtual 168, 3) := by decide +kernel
theorem dX8_push_54 : decode cX8_push 54 = .ok (.aload_n 0, 1) := by decide +kernel
theorem dX8_push_55 : decode cX8_push 55 = .ok (.getfield 7, 3) := by decide +kernel
theorem dX8_push_58 : decode cX8_push 58 = .ok (.bipush 12, 2) := by decide +kernel
theorem dX8_push_60 : decode cX8_push 60 = .ok (.dup2, 1) := by decide +kernel
theorem dX8_push_61 : decode cX8_push 61 = .ok (.iaload, 1) := by decide +kernel
theorem dX8_push_62 : decode cX8_push 62 = .ok (.iconst 1, 1) := by decide +kernel
theorem dX8_push_63 : decode cX8_push 63 = .ok (.iadd, 1) := by decide +kernel
theorem dX8_push_64 : decode cX8_push 64 = .ok (.iastore, 1) := by decide +kernel
theorem dX8_push_65 : decode cX8_push 65 = .ok (.aload_n 0, 1) := by decide +kernel
theorem dX8_push_66 : decode cX8_push 66 = .ok (.getfield 7, 3) := by decide +kernel
theorem dX8_push_69 : decode cX8_push 69 = .ok (.bipush 12, 2) := by decide +kernel
theorem dX8_push_71 : decode cX8_push 71 = .ok (.iaload, 1) := by decide +kernel
theorem dX8_push_72 : decode cX8_push 72 = .ok (.ireturn, 1) := by decide +kernel
theorem dX8_jump_0 : decode cX8_jump 0 = .ok (.iload_n 1, 1) := by decide +kernel
theorem dX8_jump_1 : decode cX8_jump 1 = .ok (.iload_n 2, 1) := by decide +kernel
theorem dX8_jump_2 : decode cX8_jump 2 = .ok (.iload_n 3, 1) := by decide +kernel
theorem dX8_jump_3 : decode cX8_jump 3 = .ok (.iload 4, 2) := by decide +kernel
theorem dX8_jump_5 : decode cX8_jump 5 = .ok (.invokestatic 154, 3) := by decide +kernel
theorem dX8_jump_8 : decode cX8_jump 8 = .ok (.ifCond .ne 6, 3) := by decide +kernel
theorem dX8_jump_11 : decode cX8_jump 11 = .ok (.ldc 112, 2) := by decide +kernel
theorem dX8_jump_13 : decode cX8_jump 13 = .ok (.ireturn, 1) := by decide +kernel
theorem dX8_jump_14 : decode cX8_jump 14 = .ok (.aload_n 0, 1) := by decide +kernel
theorem dX8_jump_15 : decode cX8_jump 15 = .ok (.getfield 7, 3) := by decide +kernel
theorem dX8_jump_18 : decode cX8_jump 18 = .ok (.bipush 12, 2) := by decide +kernel
theorem dX8_jump_20 : decode cX8_jump 20 = .ok (.iaload, 1) := by decide +kernel
theorem dX8_jump_21 : decode cX8_jump 21 = .ok (.bipush 12, 2) := by decide +kernel
theorem dX8_jump_23 : decode cX8_jump 23 = .ok (.if_icmp .ne 6, 3) := by decide +kernel
theorem dX8_jump_26 : decode cX8_jump 26 = .ok (.ldc 130, 2) := by decide +kernel
theorem dX8_jump_28 : decode cX8_jump 28 = .ok (.ireturn, 1) := by decide +kernel
theorem dX8_jump_29 : decode cX8_jump 29 = .ok (.aload_n 0, 1) := by decide +kernel
theorem dX8_jump_30 : decode cX8_jump 30 = .ok (.invokevirtual 165, 3) := by decide +kernel
theorem dX8_jump_33 : decode cX8_jump 33 = .ok (.iconst 4, 1) := by decide +kernel
theorem dX8_jump_34 : decode cX8_jump 34 = .ok (.aload_n 0, 1) := by decide +kernel
theorem dX8_jump_35 : decode cX8_jump 35 = .ok (.getfield 7, 3) := by decide +kernel
theorem dX8_jump_38 : decode cX8_jump 38 = .ok (.bipush 12, 2) := by decide +kernel
theorem dX8_jump_40 : decode cX8_jump 40 = .ok (.iaload, 1) := by decide +kernel
theorem dX8_jump_41 : decode cX8_jump 41 = .ok (.imul, 1) := by decide +kernel
theorem dX8_jump_42 : decode cX8_jump 42 = .ok (.iconst 1, 1) := by decide +kernel
theorem dX8_jump_43 : decode cX8_jump 43 = .ok (.isub, 1) := by decide +kernel
theorem dX8_jump_44 : decode cX8_jump 44 = .ok (.istore 5, 2) := by decide +kernel
theorem dX8_jump_46 : decode cX8_jump 46 = .ok (.iload 5, 2) := by decide +kernel
theorem dX8_jump_48 : decode cX8_jump 48 = .ok (.ifCond .lt 31, 3) := by decide +kernel
theorem dX8_jump_51 : decode cX8_jump 51 = .ok (.aload_n 0, 1) := by decide +kernel
theorem dX8_jump_52 : decode cX8_jump 52 = .ok (.getfield 7, 3) := by decide +kernel
theorem dX8_jump_55 : decode cX8_jump 55 = .ok (.bipush 13, 2) := by decide +kernel
theorem dX8_jump_57 : decode cX8_jump 57 = .ok (.iload 5, 2) := by decide +kernel
theorem dX8_jump_59 : decode cX8_jump 59 = .ok (.iadd, 1) := by decide +kernel
theorem dX8_jump_60 : decode cX8_jump 60 = .ok (.iconst 4, 1) := by decide +kernel
theorem dX8_jump_61 : decode cX8_jump 61 = .ok (.iadd, 1) := by decide +kernel
theorem dX8_jump_62 : decode cX8_jump 62 = .ok (.aload_n 0, 1) := by decide +kernel
theorem dX8_jump_63 : decode cX8_jump 63 = .ok (.getfield 7, 3) := by decide +kernel
theorem dX8_jump_66 : decode cX8_jump 66 = .ok (.bipush 13, 2) := by decide +kernel
theorem dX8_jump_68 : decode cX8_jump 68 = .ok (.iload 5, 2) := by decide +kernel
theorem dX8_jump_70 : decode cX8_jump 70 = .ok (.iadd, 1) := by decide +kernel
theorem dX8_jump_71 : decode cX8_jump 71 = .ok (.iaload, 1) := by decide +kernel
theorem dX8_jump_72 : decode cX8_jump 72 = .ok (.iastore, 1) := by decide +kernel
theorem dX8_jump_73 : decode cX8_jump 73 = .ok (.iinc 5 (-1), 3) := by decide +kernel
theorem dX8_jump_76 : decode cX8_jump 76 = .ok (.goto (-30), 3) := by decide +kernel
theorem dX8_jump_79 : decode cX8_jump 79 = .ok (.aload_n 0, 1) := by decide +kernel
theorem dX8_jump_80 : decode cX8_jump 80 = .ok (.bipush 13, 2) := by decide +kernel
theorem dX8_jump_82 : decode cX8_jump 82 = .ok (.iload_n 1, 1) := by decide +kernel
theorem dX8_jump_83 : decode cX8_jump 83 = .ok (.iload_n 2, 1) := by decide +kernel
theorem dX8_jump_84 : decode cX8_jump 84 = .ok (.iload_n 3, 1) := by decide +kernel
theorem dX8_jump_85 : decode cX8_jump 85 = .ok (.iload 4, 2) := by decide +kernel
theorem dX8_jump_87 : decode cX8_jump 87 = .ok (.invokevirtual 168, 3) := by decide +kernel
theorem dX8_jump_90 : decode cX8_jump 90 = .ok (.aload_n 0, 1) := by decide +kernel
theorem dX8_jump_91 : decode cX8_jump 91 = .ok (.getfield 7, 3) := by decide +kernel
theorem dX8_jump_94 : decode cX8_jump 94 = .ok (.bipush 12, 2) := by decide +kernel
theorem dX8_jump_96 : decode cX8_jump 96 = .ok (.dup2, 1) := by decide +kernel
theorem dX8_jump_97 : decode cX8_jump 97 = .ok (.iaload, 1) := by decide +kernel
theorem dX8_jump_98 : decode cX8_jump 98 = .ok (.iconst 1, 1) := by decide +kernel
theorem dX8_jump_99 : decode cX8_jump 99 = .ok (.iadd, 1) := by decide +kernel
theorem dX8_jump_100 : decode cX8_jump 100 = .ok (.iastore, 1) := by decide +kernel
theorem dX8_jump_101 : decode cX8_jump 101 = .ok (.aload_n 0, 1) := by decide +kernel
theorem dX8_jump_102 : decode cX8_jump 102 = .ok (.getfield 7, 3) := by decide +kernel
theorem dX8_jump_105 : decode cX8_jump 105 = .ok (.bipush 12, 2) := by decide +kernel
theorem dX8_jump_107 : decode cX8_jump 107 = .ok (.iaload, 1) := by decide +kernel
theorem dX8_jump_108 : decode cX8_jump 108 = .ok (.ireturn, 1) := by decide +kernel
theorem dX8_purge_0 : decode cX8_purge 0 = .ok (.iload_n 1, 1) := by decide +kernel
theorem dX8_purge_1 : decode cX8_purge 1 = .ok (.i2l, 1) := by decide +kernel
theorem dX8_purge_2 : decode cX8_purge 2 = .ok (.lconst 0, 1) := by decide +kernel
theorem dX8_purge_3 : decode cX8_purge 3 = .ok (.ldc2_w 49, 3) := by decide +kernel
theorem dX8_purge_6 : decode cX8_purge 6 = .ok (.invokestatic 51, 3) := by decide +kernel
theorem dX8_purge_9 : decode cX8_purge 9 = .ok (.ifCond .ne 6, 3) := by decide +kernel
theorem dX8_purge_12 : decode cX8_purge 12 = .ok (.ldc 112, 2) := by decide +kernel
theorem dX8_purge_14 : decode cX8_purge 14 = .ok (.ireturn, 1) := by decide +kernel
theorem dX8_purge_15 : decode cX8_purge 15 = .ok (.aload_n 0, 1) := by decide +kernel
theorem dX8_purge_16 : decode cX8_purge 16 = .ok (.invokevirtual 119, 3) := by decide +kernel
theorem dX8_purge_19 : decode cX8_purge 19 = .ok (.iload_n 1, 1) := by decide +kernel
theorem dX8_purge_20 : decode cX8_purge 20 = .ok (.ishr, 1) := by decide +kernel
theorem dX8_purge_21 : decode cX8_purge 21 = .ok (.iconst 1, 1) := by decide +kernel
theorem dX8_purge_22 : decode cX8_purge 22 = .ok (.iand, 1) := by decide +kernel
theorem dX8_purge_23 : decode cX8_purge 23 = .ok (.ifCond .ne 6, 3) := by decide +kernel
theorem dX8_purge_26 : decode cX8_purge 26 = .ok (.ldc 172, 2) := by decide +kernel
theorem dX8_purge_28 : decode cX8_purge 28 = .ok (.ireturn, 1) := by decide +kernel
theorem dX8_purge_29 : decode cX8_purge 29 = .ok (.aload_n 0, 1) := by decide +kernel
theorem dX8_purge_30 : decode cX8_purge 30 = .ok (.invokevirtual 165, 3) := by decide +kernel
theorem dX8_purge_33 : decode cX8_purge 33 = .ok (.iconst 0, 1) := by decide +kernel
theorem dX8_purge_34 : decode cX8_purge 34 = .ok (.istore_n 2, 1) := by decide +kernel
theorem dX8_purge_35 : decode cX8_purge 35 = .ok (.iconst 0, 1) := by decide +kernel
theorem dX8_purge_36 : decode cX8_purge 36 = .ok (.istore_n 3, 1) := by decide +kernel
theorem dX8_purge_37 : decode cX8_purge 37 = .ok (.iload_n 3, 1) := by decide +kernel
theorem dX8_purge_38 : decode cX8_purge 38 = .ok (.aload_n 0, 1) := by decide +kernel
theorem dX8_purge_39 : decode cX8_purge 39 = .ok (.getfield 7, 3) := by decide +kernel
theorem dX8_purge_42 : decode cX8_purge 42 = .ok (.bipush 12, 2) := by decide +kernel
theorem dX8_purge_44 : decode cX8_purge 44 = .ok (.iaload, 1) := by decide +kernel
theorem dX8_purge_45 : decode cX8_purge 45 = .ok (.if_icmp .ge 75, 3) := by decide +kernel
theorem dX8_purge_48 : decode cX8_purge 48 = .ok (.bipush 13, 2) := by decide +kernel
theorem dX8_purge_50 : decode cX8_purge 50 = .ok (.iconst 4, 1) := by decide +kernel
theorem dX8_purge_51 : decode cX8_purge 51 = .ok (.iload_n 3, 1) := by decide +kernel
theorem dX8_purge_52 : decode cX8_purge 52 = .ok (.imul, 1) := by decide +kernel
theorem dX8_purge_53 : decode cX8_purge 53 = .ok (.iadd, 1) := by decide +kernel
theorem dX8_purge_54 : decode cX8_purge 54 = .ok (.istore 4, 2) := by decide +kernel
theorem dX8_purge_56 : decode cX8_purge 56 = .ok (.aload_n 0, 1) := by decide +kernel
theorem dX8_purge_57 : decode cX8_purge 57 = .ok (.getfield 7, 3) := by decide +kernel
theorem dX8_purge_60 : decode cX8_purge 60 = .ok (.iload 4, 2) := by decide +kernel
theorem dX8_purge_62 : decode cX8_purge 62 = .ok (.iaload, 1) := by decide +kernel
theorem dX8_purge_63 : decode cX8_purge 63 = .ok (.iload_n 1, 1) := by decide +kernel
theorem dX8_purge_64 : decode cX8_purge 64 = .ok (.if_icmp .eq 50, 3) := by decide +kernel
theorem dX8_purge_67 : decode cX8_purge 67 = .ok (.aload_n 0, 1) := by decide +kernel
theorem dX8_purge_68 : decode cX8_purge 68 = .ok (.bipush 13, 2) := by decide +kernel
theorem dX8_purge_70 : decode cX8_purge 70 = .ok (.iconst 4, 1) := by decide +kernel
theorem dX8_purge_71 : decode cX8_purge 71 = .ok (.iload_n 2, 1) := by decide +kernel
theorem dX8_purge_72 : decode cX8_purge 72 = .ok (.imul, 1) := by decide +kernel
theorem dX8_purge_73 : decode cX8_purge 73 = .ok (.iadd, 1) := by decide +kernel
theorem dX8_purge_74 : decode cX8_purge 74 = .ok (.aload_n 0, 1) := by decide +kernel
theorem dX8_purge_75 : decode cX8_purge 75 = .ok (.getfield 7, 3) := by decide +kernel
theorem dX8_purge_78 : decode cX8_purge 78 = .ok (.iload 4, 2) := by decide +kernel
theorem dX8_purge_80 : decode cX8_purge 80 = .ok (.iaload, 1) := by decide +kernel
theorem dX8_purge_81 : decode cX8_purge 81 = .ok (.aload_n 0, 1) := by decide +kernel
theorem dX8_purge_82 : decode cX8_purge 82 = .ok (.getfield 7, 3) := by decide +kernel
theorem dX8_purge_85 : decode cX8_purge 85 = .ok (.iload 4, 2) := by decide +kernel
theorem dX8_purge_87 : decode cX8_purge 87 = .ok (.iconst 1, 1) := by decide +kernel
theorem dX8_purge_88 : decode cX8_purge 88 = .ok (.iadd, 1) := by decide +kernel
theorem dX8_purge_89 : decode cX8_purge 89 = .ok (.iaload, 1) := by decide +kernel
theorem dX8_purge_90 : decode cX8_purge 90 = .ok (.aload_n 0, 1) := by decide +kernel
theorem dX8_purge_91 : decode cX8_purge 91 = .ok (.getfield 7, 3) := by decide +kernel
theorem dX8_purge_94 : decode cX8_purge 94 = .ok (.iload 4, 2) := by decide +kernel
theorem dX8_purge_96 : decode cX8_purge 96 = .ok (.iconst 2, 1) := by decide +kernel
theorem dX8_purge_97 : decode cX8_purge 97 = .ok (.iadd, 1) := by decide +kernel
theorem dX8_purge_98 : decode cX8_purge 98 = .ok (.iaload, 1) := by decide +kernel
theorem dX8_purge_99 : decode cX8_purge 99 = .ok (.aload_n 0, 1) := by decide +kernel
theorem dX8_purge_100 : decode cX8_purge 100 = .ok (.getfield 7, 3) := by decide +kernel
theorem dX8_purge_103 : decode cX8_purge 103 = .ok (.iload 4, 2) := by decide +kernel
theorem dX8_purge_105 : decode cX8_purge 105 = .ok (.iconst 3, 1) := by decide +kernel
theorem dX8_purge_106 : decode cX8_purge 106 = .ok (.iadd, 1) := by decide +kernel
theorem dX8_purge_107 : decode cX8_purge 107 = .ok (.iaload, 1) := by decide +kernel
theorem dX8_purge_108 : decode cX8_purge 108 = .ok (.invokevirtual 168, 3) := by decide +kernel
theorem dX8_purge_111 : decode cX8_purge 111 = .ok (.iinc 2 1, 3) := by decide +kernel
theorem dX8_purge_114 : decode cX8_purge 114 = .ok (.iinc 3 1, 3) := by decide +kernel
theorem dX8_purge_117 : decode cX8_purge 117 = .ok (.goto (-80), 3) := by decide +kernel
theorem dX8_purge_120 : decode cX8_purge 120 = .ok (.aload_n 0, 1) := by decide +kernel
theorem dX8_purge_121 : decode cX8_purge 121 = .ok (.getfield 7, 3) := by decide +kernel
theorem dX8_purge_124 : decode cX8_purge 124 = .ok (.bipush 12, 2) := by decide +kernel
theorem dX8_purge_126 : decode cX8_purge 126 = .ok (.iaload, 1) := by decide +kernel
theorem dX8_purge_127 : decode cX8_purge 127 = .ok (.iload_n 2, 1) := by decide +kernel
theorem dX8_purge_128 : decode cX8_purge 128 = .ok (.isub, 1) := by decide +kernel
theorem dX8_purge_129 : decode cX8_purge 129 = .ok (.istore_n 3, 1) := by decide +kernel
theorem dX8_purge_130 : decode cX8_purge 130 = .ok (.aload_n 0, 1) := by decide +kernel
theorem dX8_purge_131 : decode cX8_purge 131 = .ok (.getfield 7, 3) := by decide +kernel
theorem dX8_purge_134 : decode cX8_purge 134 = .ok (.bipush 12, 2) := by decide +kernel
theorem dX8_purge_136 : decode cX8_purge 136 = .ok (.iload_n 2, 1) := by decide +kernel
theorem dX8_purge_137 : decode cX8_purge 137 = .ok (.iastore, 1) := by decide +kernel
theorem dX8_purge_138 : decode cX8_purge 138 = .ok (.iload_n 3, 1) := by decide +kernel
theorem dX8_purge_139 : decode cX8_purge 139 = .ok (.ireturn, 1) := by decide +kernel
theorem dX8_stop_0 : decode cX8_stop 0 = .ok (.aload_n 0, 1) := by decide +kernel
theorem dX8_stop_1 : decode cX8_stop 1 = .ok (.getfield 7, 3) := by decide +kernel
theorem dX8_stop_4 : decode cX8_stop 4 = .ok (.iconst 5, 1) := by decide +kernel
theorem dX8_stop_5 : decode cX8_stop 5 = .ok (.iaload, 1) := by decide +kernel
theorem dX8_stop_6 : decode cX8_stop 6 = .ok (.ifCond .ge 6, 3) := by decide +kernel
theorem dX8_stop_9 : decode cX8_stop 9 = .ok (.ldc 172, 2) := by decide +kernel
theorem dX8_stop_11 : decode cX8_stop 11 = .ok (.ireturn, 1) := by decide +kernel
theorem dX8_stop_12 : decode cX8_stop 12 = .ok (.aload_n 0, 1) := by decide +kernel
theorem dX8_stop_13 : decode cX8_stop 13 = .ok (.invokevirtual 165, 3) := by decide +kernel
theorem dX8_stop_16 : decode cX8_stop 16 = .ok (.aload_n 0, 1) := by decide +kernel
theorem dX8_stop_17 : decode cX8_stop 17 = .ok (.iconst 0, 1) := by decide +kernel
theorem dX8_stop_18 : decode cX8_stop 18 = .ok (.invokevirtual 80, 3) := by decide +kernel
theorem dX8_stop_21 : decode cX8_stop 21 = .ok (.istore_n 1, 1) := by decide +kernel
theorem dX8_stop_22 : decode cX8_stop 22 = .ok (.aload_n 0, 1) := by decide +kernel
theorem dX8_stop_23 : decode cX8_stop 23 = .ok (.getfield 7, 3) := by decide +kernel
theorem dX8_stop_26 : decode cX8_stop 26 = .ok (.iconst 5, 1) := by decide +kernel
theorem dX8_stop_27 : decode cX8_stop 27 = .ok (.iconst (-1), 1) := by decide +kernel
theorem dX8_stop_28 : decode cX8_stop 28 = .ok (.iastore, 1) := by decide +kernel
theorem dX8_stop_29 : decode cX8_stop 29 = .ok (.iload_n 1, 1) := by decide +kernel
theorem dX8_stop_30 : decode cX8_stop 30 = .ok (.ireturn, 1) := by decide +kernel
theorem dX8_hold_0 : decode cX8_hold 0 = .ok (.aload_n 0, 1) := by decide +kernel
theorem dX8_hold_1 : decode cX8_hold 1 = .ok (.invokevirtual 165, 3) := by decide +kernel
theorem dX8_hold_4 : decode cX8_hold 4 = .ok (.aload_n 0, 1) := by decide +kernel
theorem dX8_hold_5 : decode cX8_hold 5 = .ok (.getfield 7, 3) := by decide +kernel
theorem dX8_hold_8 : decode cX8_hold 8 = .ok (.iconst 3, 1) := by decide +kernel
theorem dX8_hold_9 : decode cX8_hold 9 = .ok (.iconst 1, 1) := by decide +kernel
theorem dX8_hold_10 : decode cX8_hold 10 = .ok (.aload_n 0, 1) := by decide +kernel
theorem dX8_hold_11 : decode cX8_hold 11 = .ok (.getfield 7, 3) := by decide +kernel
theorem dX8_hold_14 : decode cX8_hold 14 = .ok (.iconst 3, 1) := by decide +kernel
theorem dX8_hold_15 : decode cX8_hold 15 = .ok (.iaload, 1) := by decide +kernel
theorem dX8_hold_16 : decode cX8_hold 16 = .ok (.isub, 1) := by decide +kernel
theorem dX8_hold_17 : decode cX8_hold 17 = .ok (.iastore, 1) := by decide +kernel
theorem dX8_hold_18 : decode cX8_hold 18 = .ok (.aload_n 0, 1) := by decide +kernel
theorem dX8_hold_19 : decode cX8_hold 19 = .ok (.getfield 7, 3) := by decide +kernel
theorem dX8_hold_22 : decode cX8_hold 22 = .ok (.iconst 3, 1) := by decide +kernel
theorem dX8_hold_23 : decode cX8_hold 23 = .ok (.iaload, 1) := by decide +kernel
theorem dX8_hold_24 : decode cX8_hold 24 = .ok (.ireturn, 1) := by decide +kernel
theorem dX8_step_0 : decode cX8_step 0 = .ok (.iload_n 1, 1) := by decide +kernel
theorem dX8_step_1 : decode cX8_step 1 = .ok (.i2l, 1) := by decide +kernel
theorem dX8_step_2 : decode cX8_step 2 = .ok (.lconst 1, 1) := by decide +kernel
theorem dX8_step_3 : decode cX8_step 3 = .ok (.ldc2_w 173, 3) := by decide +kernel
theorem dX8_step_6 : decode cX8_step 6 = .ok (.invokestatic 51, 3) := by decide +kernel
theorem dX8_step_9 : decode cX8_step 9 = .ok (.ifCond .ne 6, 3) := by decide +kernel
theorem dX8_step_12 : decode cX8_step 12 = .ok (.ldc 112, 2) := by decide +kernel
theorem dX8_step_14 : decode cX8_step 14 = .ok (.ireturn, 1) := by decide +kernel
theorem dX8_step_15 : decode cX8_step 15 = .ok (.aload_n 0, 1) := by decide +kernel
theorem dX8_step_16 : decode cX8_step 16 = .ok (.getfield 7, 3) := by decide +kernel
theorem dX8_step_19 : decode cX8_step 19 = .ok (.iconst 3, 1) := by decide +kernel
theorem dX8_step_20 : decode cX8_step 20 = .ok (.iaload, 1) := by decide +kernel
theorem dX8_step_21 : decode cX8_step 21 = .ok (.iconst 1, 1) := by decide +kernel
theorem dX8_step_22 : decode cX8_step 22 = .ok (.if_icmp .ne 6, 3) := by decide +kernel
theorem dX8_step_25 : decode cX8_step 25 = .ok (.ldc 172, 2) := by decide +kernel
theorem dX8_step_27 : decode cX8_step 27 = .ok (.ireturn, 1) := by decide +kernel
theorem dX8_step_28 : decode cX8_step 28 = .ok (.aload_n 0, 1) := by decide +kernel
theorem dX8_step_29 : decode cX8_step 29 = .ok (.invokevirtual 165, 3) := by decide +kernel
theorem dX8_step_32 : decode cX8_step 32 = .ok (.iconst 0, 1) := by decide +kernel
theorem dX8_step_33 : decode cX8_step 33 = .ok (.istore_n 2, 1) := by decide +kernel
theorem dX8_step_34 : decode cX8_step 34 = .ok (.iload_n 2, 1) := by decide +kernel
theorem dX8_step_35 : decode cX8_step 35 = .ok (.iload_n 1, 1) := by decide +kernel
theorem dX8_step_36 : decode cX8_step 36 = .ok (.if_icmp .ge 17, 3) := by decide +kernel
theorem dX8_step_39 : decode cX8_step 39 = .ok (.aload_n 0, 1) := by decide +kernel
theorem dX8_step_40 : decode cX8_step 40 = .ok (.iconst 0, 1) := by decide +kernel
theorem dX8_step_41 : decode cX8_step 41 = .ok (.invokevirtual 175, 3) := by decide +kernel
theorem dX8_step_44 : decode cX8_step 44 = .ok (.ifCond .eq 9, 3) := by decide +kernel
theorem dX8_step_47 : decode cX8_step 47 = .ok (.iinc 2 1, 3) := by decide +kernel
theorem dX8_step_50 : decode cX8_step 50 = .ok (.goto (-16), 3) := by decide +kernel
theorem dX8_step_53 : decode cX8_step 53 = .ok (.iload_n 2, 1) := by decide +kernel
theorem dX8_step_54 : decode cX8_step 54 = .ok (.ireturn, 1) := by decide +kernel
theorem dX8_drift_0 : decode cX8_drift 0 = .ok (.iload_n 1, 1) := by decide +kernel
theorem dX8_drift_1 : decode cX8_drift 1 = .ok (.i2l, 1) := by decide +kernel
theorem dX8_drift_2 : decode cX8_drift 2 = .ok (.lconst 1, 1) := by decide +kernel
theorem dX8_drift_3 : decode cX8_drift 3 = .ok (.ldc2_w 178, 3) := by decide +kernel
theorem dX8_drift_6 : decode cX8_drift 6 = .ok (.invokestatic 51, 3) := by decide +kernel
theorem dX8_drift_9 : decode cX8_drift 9 = .ok (.ifCond .ne 6, 3) := by decide +kernel
theorem dX8_drift_12 : decode cX8_drift 12 = .ok (.ldc 112, 2) := by decide +kernel
theorem dX8_drift_14 : decode cX8_drift 14 = .ok (.ireturn, 1) := by decide +kernel
theorem dX8_drift_15 : decode cX8_drift 15 = .ok (.iconst 0, 1) := by decide +kernel
theorem dX8_drift_16 : decode cX8_drift 16 = .ok (.istore_n 2, 1) := by decide +kernel
theorem dX8_drift_17 : decode cX8_drift 17 = .ok (.iload_n 2, 1) := by decide +kernel
theorem dX8_drift_18 : decode cX8_drift 18 = .ok (.iload_n 1, 1) := by decide +kernel
theorem dX8_drift_19 : decode cX8_drift 19 = .ok (.if_icmp .ge 146, 3) := by decide +kernel
theorem dX8_drift_22 : decode cX8_drift 22 = .ok (.aload_n 0, 1) := by decide +kernel
theorem dX8_drift_23 : decode cX8_drift 23 = .ok (.invokevirtual 165, 3) := by decide +kernel
theorem dX8_drift_26 : decode cX8_drift 26 = .ok (.aload_n 0, 1) := by decide +kernel
theorem dX8_drift_27 : decode cX8_drift 27 = .ok (.getfield 7, 3) := by decide +kernel
theorem dX8_drift_30 : decode cX8_drift 30 = .ok (.iconst 4, 1) := by decide +kernel
theorem dX8_drift_31 : decode cX8_drift 31 = .ok (.aload_n 0, 1) := by decide +kernel
theorem dX8_drift_32 : decode cX8_drift 32 = .ok (.getfield 7, 3) := by decide +kernel
theorem dX8_drift_35 : decode cX8_drift 35 = .ok (.iconst 4, 1) := by decide +kernel
theorem dX8_drift_36 : decode cX8_drift 36 = .ok (.iaload, 1) := by decide +kernel
theorem dX8_drift_37 : decode cX8_drift 37 = .ok (.ldc 180, 2) := by decide +kernel
theorem dX8_drift_39 : decode cX8_drift 39 = .ok (.imul, 1) := by decide +kernel
theorem dX8_drift_40 : decode cX8_drift 40 = .ok (.sipush 12345, 3) := by decide +kernel
theorem dX8_drift_43 : decode cX8_drift 43 = .ok (.iadd, 1) := by decide +kernel
theorem dX8_drift_44 : decode cX8_drift 44 = .ok (.ldc 181, 2) := by decide +kernel
theorem dX8_drift_46 : decode cX8_drift 46 = .ok (.iand, 1) := by decide +kernel
theorem dX8_drift_47 : decode cX8_drift 47 = .ok (.iastore, 1) := by decide +kernel
theorem dX8_drift_48 : decode cX8_drift 48 = .ok (.aload_n 0, 1) := by decide +kernel
theorem dX8_drift_49 : decode cX8_drift 49 = .ok (.getfield 7, 3) := by decide +kernel
theorem dX8_drift_52 : decode cX8_drift 52 = .ok (.iconst 4, 1) := by decide +kernel
theorem dX8_drift_53 : decode cX8_drift 53 = .ok (.iaload, 1) := by decide +kernel
theorem dX8_drift_54 : decode cX8_drift 54 = .ok (.ldc 182, 2) := by decide +kernel
theorem dX8_drift_56 : decode cX8_drift 56 = .ok (.idiv, 1) := by decide +kernel
theorem dX8_drift_57 : decode cX8_drift 57 = .ok (.istore_n 3, 1) := by decide +kernel
theorem dX8_drift_58 : decode cX8_drift 58 = .ok (.iload_n 3, 1) := by decide +kernel
theorem dX8_drift_59 : decode cX8_drift 59 = .ok (.iconst 3, 1) := by decide +kernel
theorem dX8_drift_60 : decode cX8_drift 60 = .ok (.irem, 1) := by decide +kernel
theorem dX8_drift_61 : decode cX8_drift 61 = .ok (.ifCond .eq 34, 3) := by decide +kernel
theorem dX8_drift_64 : decode cX8_drift 64 = .ok (.aload_n 0, 1) := by decide +kernel
theorem dX8_drift_65 : decode cX8_drift 65 = .ok (.iconst 0, 1) := by decide +kernel
theorem dX8_drift_66 : decode cX8_drift 66 = .ok (.invokevirtual 175, 3) := by decide +kernel
theorem dX8_drift_69 : decode cX8_drift 69 = .ok (.istore 4, 2) := by decide +kernel
theorem dX8_drift_71 : decode cX8_drift 71 = .ok (.aload_n 0, 1) := by decide +kernel
theorem dX8_drift_72 : decode cX8_drift 72 = .ok (.getfield 20, 3) := by decide +kernel
theorem dX8_drift_75 : decode cX8_drift 75 = .ok (.iconst 0, 1) := by decide +kernel
theorem dX8_drift_76 : decode cX8_drift 76 = .ok (.iload 4, 2) := by decide +kernel
theorem dX8_drift_78 : decode cX8_drift 78 = .ok (.ifCond .eq 12, 3) := by decide +kernel
theorem dX8_drift_81 : decode cX8_drift 81 = .ok (.aload_n 0, 1) := by decide +kernel
theorem dX8_drift_82 : decode cX8_drift 82 = .ok (.getfield 20, 3) := by decide +kernel
theorem dX8_drift_85 : decode cX8_drift 85 = .ok (.iconst 0, 1) := by decide +kernel
theorem dX8_drift_86 : decode cX8_drift 86 = .ok (.iaload, 1) := by decide +kernel
theorem dX8_drift_87 : decode cX8_drift 87 = .ok (.goto 4, 3) := by decide +kernel
theorem dX8_drift_90 : decode cX8_drift 90 = .ok (.iconst 0, 1) := by decide +kernel
theorem dX8_drift_91 : decode cX8_drift 91 = .ok (.iastore, 1) := by decide +kernel
theorem dX8_drift_92 : decode cX8_drift 92 = .ok (.goto 67, 3) := by decide +kernel
theorem dX8_drift_95 : decode cX8_drift 95 = .ok (.aload_n 0, 1) := by decide +kernel
theorem dX8_drift_96 : decode cX8_drift 96 = .ok (.getfield 7, 3) := by decide +kernel
theorem dX8_drift_99 : decode cX8_drift 99 = .ok (.bipush 12, 2) := by decide +kernel
theorem dX8_drift_101 : decode cX8_drift 101 = .ok (.iaload, 1) := by decide +kernel
theorem dX8_drift_102 : decode cX8_drift 102 = .ok (.bipush 12, 2) := by decide +kernel
theorem dX8_drift_104 : decode cX8_drift 104 = .ok (.if_icmp .ge 55, 3) := by decide +kernel
theorem dX8_drift_107 : decode cX8_drift 107 = .ok (.aload_n 0, 1) := by decide +kernel
theorem dX8_drift_108 : decode cX8_drift 108 = .ok (.bipush 13, 2) := by decide +kernel
theorem dX8_drift_110 : decode cX8_drift 110 = .ok (.iconst 4, 1) := by decide +kernel
theorem dX8_drift_111 : decode cX8_drift 111 = .ok (.aload_n 0, 1) := by decide +kernel
theorem dX8_drift_112 : decode cX8_drift 112 = .ok (.getfield 7, 3) := by decide +kernel
theorem dX8_drift_115 : decode cX8_drift 115 = .ok (.bipush 12, 2) := by decide +kernel
theorem dX8_drift_117 : decode cX8_drift 117 = .ok (.iaload, 1) := by decide +kernel
theorem dX8_drift_118 : decode cX8_drift 118 = .ok (.imul, 1) := by decide +kernel
theorem dX8_drift_119 : decode cX8_drift 119 = .ok (.iadd, 1) := by decide +kernel
theorem dX8_drift_120 : decode cX8_drift 120 = .ok (.iload_n 3, 1) := by decide +kernel
theorem dX8_drift_121 : decode cX8_drift 121 = .ok (.iconst 3, 1) := by decide +kernel
theorem dX8_drift_122 : decode cX8_drift 122 = .ok (.idiv, 1) := by decide +kernel
theorem dX8_drift_123 : decode cX8_drift 123 = .ok (.iconst 3, 1) := by decide +kernel
theorem dX8_drift_124 : decode cX8_drift 124 = .ok (.irem, 1) := by decide +kernel
theorem dX8_drift_125 : decode cX8_drift 125 = .ok (.iload_n 3, 1) := by decide +kernel
theorem dX8_drift_126 : decode cX8_drift 126 = .ok (.bipush 16, 2) := by decide +kernel
theorem dX8_drift_128 : decode cX8_drift 128 = .ok (.idiv, 1) := by decide +kernel
theorem dX8_drift_129 : decode cX8_drift 129 = .ok (.bipush 9, 2) := by decide +kernel
theorem dX8_drift_131 : decode cX8_drift 131 = .ok (.irem, 1) := by decide +kernel
theorem dX8_drift_132 : decode cX8_drift 132 = .ok (.iconst 4, 1) := by decide +kernel
theorem dX8_drift_133 : decode cX8_drift 133 = .ok (.isub, 1) := by decide +kernel
theorem dX8_drift_134 : decode cX8_drift 134 = .ok (.iload_n 3, 1) := by decide +kernel
theorem dX8_drift_135 : decode cX8_drift 135 = .ok (.sipush 256, 3) := by decide +kernel
theorem dX8_drift_138 : decode cX8_drift 138 = .ok (.idiv, 1) := by decide +kernel
theorem dX8_drift_139 : decode cX8_drift 139 = .ok (.bipush 9, 2) := by decide +kernel
theorem dX8_drift_141 : decode cX8_drift 141 = .ok (.irem, 1) := by decide +kernel
theorem dX8_drift_142 : decode cX8_drift 142 = .ok (.iconst 4, 1) := by decide +kernel
theorem dX8_drift_143 : decode cX8_drift 143 = .ok (.isub, 1) := by decide +kernel
theorem dX8_drift_144 : decode cX8_drift 144 = .ok (.iconst 1, 1) := by decide +kernel
theorem dX8_drift_145 : decode cX8_drift 145 = .ok (.invokevirtual 168, 3) := by decide +kernel
theorem dX8_drift_148 : decode cX8_drift 148 = .ok (.aload_n 0, 1) := by decide +kernel
theorem dX8_drift_149 : decode cX8_drift 149 = .ok (.getfield 7, 3) := by decide +kernel
theorem dX8_drift_152 : decode cX8_drift 152 = .ok (.bipush 12, 2) := by decide +kernel
theorem dX8_drift_154 : decode cX8_drift 154 = .ok (.dup2, 1) := by decide +kernel
theorem dX8_drift_155 : decode cX8_drift 155 = .ok (.iaload, 1) := by decide +kernel
theorem dX8_drift_156 : decode cX8_drift 156 = .ok (.iconst 1, 1) := by decide +kernel
theorem dX8_drift_157 : decode cX8_drift 157 = .ok (.iadd, 1) := by decide +kernel
theorem dX8_drift_158 : decode cX8_drift 158 = .ok (.iastore, 1) := by decide +kernel
theorem dX8_drift_159 : decode cX8_drift 159 = .ok (.iinc 2 1, 3) := by decide +kernel
theorem dX8_drift_162 : decode cX8_drift 162 = .ok (.goto (-145), 3) := by decide +kernel
theorem dX8_drift_165 : decode cX8_drift 165 = .ok (.aload_n 0, 1) := by decide +kernel
theorem dX8_drift_166 : decode cX8_drift 166 = .ok (.iconst 0, 1) := by decide +kernel
theorem dX8_drift_167 : decode cX8_drift 167 = .ok (.invokevirtual 116, 3) := by decide +kernel
theorem dX8_drift_170 : decode cX8_drift 170 = .ok (.ireturn, 1) := by decide +kernel
theorem dX8_undo_0 : decode cX8_undo 0 = .ok (.aload_n 0, 1) := by decide +kernel
theorem dX8_undo_1 : decode cX8_undo 1 = .ok (.getfield 42, 3) := by decide +kernel
theorem dX8_undo_4 : decode cX8_undo 4 = .ok (.ifCond .ne 6, 3) := by decide +kernel
theorem dX8_undo_7 : decode cX8_undo 7 = .ok (.ldc 115, 2) := by decide +kernel
theorem dX8_undo_9 : decode cX8_undo 9 = .ok (.ireturn, 1) := by decide +kernel
theorem dX8_undo_10 : decode cX8_undo 10 = .ok (.aload_n 0, 1) := by decide +kernel
theorem dX8_undo_11 : decode cX8_undo 11 = .ok (.dup, 1) := by decide +kernel
theorem dX8_undo_12 : decode cX8_undo 12 = .ok (.getfield 42, 3) := by decide +kernel
theorem dX8_undo_15 : decode cX8_undo 15 = .ok (.iconst 1, 1) := by decide +kernel
theorem dX8_undo_16 : decode cX8_undo 16 = .ok (.isub, 1) := by decide +kernel
theorem dX8_undo_17 : decode cX8_undo 17 = .ok (.putfield 42, 3) := by decide +kernel
theorem dX8_undo_20 : decode cX8_undo 20 = .ok (.aload_n 0, 1) := by decide +kernel
theorem dX8_undo_21 : decode cX8_undo 21 = .ok (.bipush 122, 2) := by decide +kernel
theorem dX8_undo_23 : decode cX8_undo 23 = .ok (.bipush 61, 2) := by decide +kernel
theorem dX8_undo_25 : decode cX8_undo 25 = .ok (.aload_n 0, 1) := by decide +kernel
theorem dX8_undo_26 : decode cX8_undo 26 = .ok (.getfield 42, 3) := by decide +kernel
theorem dX8_undo_29 : decode cX8_undo 29 = .ok (.imul, 1) := by decide +kernel
theorem dX8_undo_30 : decode cX8_undo 30 = .ok (.iadd, 1) := by decide +kernel
theorem dX8_undo_31 : decode cX8_undo 31 = .ok (.iconst 0, 1) := by decide +kernel
theorem dX8_undo_32 : decode cX8_undo 32 = .ok (.invokevirtual 45, 3) := by decide +kernel
theorem dX8_undo_35 : decode cX8_undo 35 = .ok (.aload_n 0, 1) := by decide +kernel
theorem dX8_undo_36 : decode cX8_undo 36 = .ok (.getfield 42, 3) := by decide +kernel
theorem dX8_undo_39 : decode cX8_undo 39 = .ok (.ireturn, 1) := by decide +kernel
theorem dX8_seed_0 : decode cX8_seed 0 = .ok (.iload_n 1, 1) := by decide +kernel
theorem dX8_seed_1 : decode cX8_seed 1 = .ok (.ifCond .ge 6, 3) := by decide +kernel
theorem dX8_seed_4 : decode cX8_seed 4 = .ok (.ldc 112, 2) := by decide +kernel
theorem dX8_seed_6 : decode cX8_seed 6 = .ok (.ireturn, 1) := by decide +kernel
theorem dX8_seed_7 : decode cX8_seed 7 = .ok (.aload_n 0, 1) := by decide +kernel
theorem dX8_seed_8 : decode cX8_seed 8 = .ok (.getfield 7, 3) := by decide +kernel
theorem dX8_seed_11 : decode cX8_seed 11 = .ok (.iconst 4, 1) := by decide +kernel
theorem dX8_seed_12 : decode cX8_seed 12 = .ok (.iaload, 1) := by decide +kernel
theorem dX8_seed_13 : decode cX8_seed 13 = .ok (.istore_n 2, 1) := by decide +kernel
theorem dX8_seed_14 : decode cX8_seed 14 = .ok (.aload_n 0, 1) := by decide +kernel
theorem dX8_seed_15 : decode cX8_seed 15 = .ok (.getfield 7, 3) := by decide +kernel
theorem dX8_seed_18 : decode cX8_seed 18 = .ok (.iconst 4, 1) := by decide +kernel
theorem dX8_seed_19 : decode cX8_seed 19 = .ok (.iload_n 1, 1) := by decide +kernel
theorem dX8_seed_20 : decode cX8_seed 20 = .ok (.iastore, 1) := by decide +kernel
theorem dX8_seed_21 : decode cX8_seed 21 = .ok (.iload_n 2, 1) := by decide +kernel
theorem dX8_seed_22 : decode cX8_seed 22 = .ok (.ireturn, 1) := by decide +kernel
theorem dX8_where_0 : decode cX8_where 0 = .ok (.iload_n 1, 1) := by decide +kernel
theorem dX8_where_1 : decode cX8_where 1 = .ok (.ifCond .lt 10, 3) := by decide +kernel
theorem dX8_where_4 : decode cX8_where 4 = .ok (.iload_n 2, 1) := by decide +kernel
theorem dX8_where_5 : decode cX8_where 5 = .ok (.invokestatic 108, 3) := by decide +kernel
theorem dX8_where_8 : decode cX8_where 8 = .ok (.ifCond .ne 6, 3) := by decide +kernel
theorem dX8_where_11 : decode cX8_where 11 = .ok (.ldc 112, 2) := by decide +kernel
theorem dX8_where_13 : decode cX8_where 13 = .ok (.ireturn, 1) := by decide +kernel
theorem dX8_where_14 : decode cX8_where 14 = .ok (.aload_n 0, 1) := by decide +kernel
theorem dX8_where_15 : decode cX8_where 15 = .ok (.iconst 0, 1) := by decide +kernel
theorem dX8_where_16 : decode cX8_where 16 = .ok (.bipush 61, 2) := by decide +kernel
theorem dX8_where_18 : decode cX8_where 18 = .ok (.invokevirtual 45, 3) := by decide +kernel
theorem dX8_where_21 : decode cX8_where 21 = .ok (.iconst 0, 1) := by decide +kernel
theorem dX8_where_22 : decode cX8_where 22 = .ok (.istore_n 3, 1) := by decide +kernel
theorem dX8_where_23 : decode cX8_where 23 = .ok (.iload_n 3, 1) := by decide +kernel
theorem dX8_where_24 : decode cX8_where 24 = .ok (.iload_n 1, 1) := by decide +kernel
theorem dX8_where_25 : decode cX8_where 25 = .ok (.if_icmp .ge 18, 3) := by decide +kernel
theorem dX8_where_28 : decode cX8_where 28 = .ok (.aload_n 0, 1) := by decide +kernel
theorem dX8_where_29 : decode cX8_where 29 = .ok (.bipush 61, 2) := by decide +kernel
theorem dX8_where_31 : decode cX8_where 31 = .ok (.invokevirtual 175, 3) := by decide +kernel
theorem dX8_where_34 : decode cX8_where 34 = .ok (.ifCond .eq 9, 3) := by decide +kernel
theorem dX8_where_37 : decode cX8_where 37 = .ok (.iinc 3 1, 3) := by decide +kernel
theorem dX8_where_40 : decode cX8_where 40 = .ok (.goto (-17), 3) := by decide +kernel
theorem dX8_where_43 : decode cX8_where 43 = .ok (.aload_n 0, 1) := by decide +kernel
theorem dX8_where_44 : decode cX8_where 44 = .ok (.getfield 7, 3) := by decide +kernel
theorem dX8_where_47 : decode cX8_where 47 = .ok (.bipush 61, 2) := by decide +kernel
theorem dX8_where_49 : decode cX8_where 49 = .ok (.iload_n 2, 1) := by decide +kernel
theorem dX8_where_50 : decode cX8_where 50 = .ok (.iadd, 1) := by decide +kernel
theorem dX8_where_51 : decode cX8_where 51 = .ok (.iaload, 1) := by decide +kernel
theorem dX8_where_52 : decode cX8_where 52 = .ok (.ireturn, 1) := by decide +kernel
theorem dX8_pulses_0 : decode cX8_pulses 0 = .ok (.iload_n 1, 1) := by decide +kernel
theorem dX8_pulses_1 : decode cX8_pulses 1 = .ok (.invokestatic 108, 3) := by decide +kernel
theorem dX8_pulses_4 : decode cX8_pulses 4 = .ok (.ifCond .eq 13, 3) := by decide +kernel
theorem dX8_pulses_7 : decode cX8_pulses 7 = .ok (.iload_n 2, 1) := by decide +kernel
theorem dX8_pulses_8 : decode cX8_pulses 8 = .ok (.i2l, 1) := by decide +kernel
theorem dX8_pulses_9 : decode cX8_pulses 9 = .ok (.lconst 0, 1) := by decide +kernel
theorem dX8_pulses_10 : decode cX8_pulses 10 = .ok (.lconst 1, 1) := by decide +kernel
theorem dX8_pulses_11 : decode cX8_pulses 11 = .ok (.invokestatic 51, 3) := by decide +kernel
theorem dX8_pulses_14 : decode cX8_pulses 14 = .ok (.ifCond .ne 6, 3) := by decide +kernel
theorem dX8_pulses_17 : decode cX8_pulses 17 = .ok (.ldc 112, 2) := by decide +kernel
theorem dX8_pulses_19 : decode cX8_pulses 19 = .ok (.ireturn, 1) := by decide +kernel
theorem dX8_pulses_20 : decode cX8_pulses 20 = .ok (.aload_n 0, 1) := by decide +kernel
theorem dX8_pulses_21 : decode cX8_pulses 21 = .ok (.iconst 0, 1) := by decide +kernel
theorem dX8_pulses_22 : decode cX8_pulses 22 = .ok (.bipush 61, 2) := by decide +kernel
theorem dX8_pulses_24 : decode cX8_pulses 24 = .ok (.invokevirtual 45, 3) := by decide +kernel
theorem dX8_pulses_27 : decode cX8_pulses 27 = .ok (.iconst 0, 1) := by decide +kernel
theorem dX8_pulses_28 : decode cX8_pulses 28 = .ok (.istore_n 3, 1) := by decide +kernel
theorem dX8_pulses_29 : decode cX8_pulses 29 = .ok (.iconst 0, 1) := by decide +kernel
theorem dX8_pulses_30 : decode cX8_pulses 30 = .ok (.istore 4, 2) := by decide +kernel
theorem dX8_pulses_32 : decode cX8_pulses 32 = .ok (.iconst 0, 1) := by decide +kernel
theorem dX8_pulses_33 : decode cX8_pulses 33 = .ok (.istore 5, 2) := by decide +kernel
theorem dX8_pulses_35 : decode cX8_pulses 35 = .ok (.aload_n 0, 1) := by decide +kernel
theorem dX8_pulses_36 : decode cX8_pulses 36 = .ok (.bipush 61, 2) := by decide +kernel
theorem dX8_pulses_38 : decode cX8_pulses 38 = .ok (.invokevirtual 175, 3) := by decide +kernel
theorem dX8_pulses_41 : decode cX8_pulses 41 = .ok (.ifCond .eq 58, 3) := by decide +kernel
theorem dX8_pulses_44 : decode cX8_pulses 44 = .ok (.iload_n 3, 1) := by decide +kernel
theorem dX8_pulses_45 : decode cX8_pulses 45 = .ok (.aload_n 0, 1) := by decide +kernel
theorem dX8_pulses_46 : decode cX8_pulses 46 = .ok (.getfield 20, 3) := by decide +kernel
theorem dX8_pulses_49 : decode cX8_pulses 49 = .ok (.iload_n 1, 1) := by decide +kernel
theorem dX8_pulses_50 : decode cX8_pulses 50 = .ok (.iaload, 1) := by decide +kernel
theorem dX8_pulses_51 : decode cX8_pulses 51 = .ok (.ifCond .eq 7, 3) := by decide +kernel
theorem dX8_pulses_54 : decode cX8_pulses 54 = .ok (.iconst 1, 1) := by decide +kernel
theorem dX8_pulses_55 : decode cX8_pulses 55 = .ok (.goto 4, 3) := by decide +kernel
theorem dX8_pulses_58 : decode cX8_pulses 58 = .ok (.iconst 0, 1) := by decide +kernel
theorem dX8_pulses_59 : decode cX8_pulses 59 = .ok (.iadd, 1) := by decide +kernel
theorem dX8_pulses_60 : decode cX8_pulses 60 = .ok (.istore_n 3, 1) := by decide +kernel
theorem dX8_pulses_61 : decode cX8_pulses 61 = .ok (.aload_n 0, 1) := by decide +kernel
theorem dX8_pulses_62 : decode cX8_pulses 62 = .ok (.getfield 20, 3) := by decide +kernel
theorem dX8_pulses_65 : decode cX8_pulses 65 = .ok (.iload_n 1, 1) := by decide +kernel
theorem dX8_pulses_66 : decode cX8_pulses 66 = .ok (.iaload, 1) := by decide +kernel
theorem dX8_pulses_67 : decode cX8_pulses 67 = .ok (.ifCond .eq 7, 3) := by decide +kernel
theorem dX8_pulses_70 : decode cX8_pulses 70 = .ok (.iconst 0, 1) := by decide +kernel
theorem dX8_pulses_71 : decode cX8_pulses 71 = .ok (.goto 7, 3) := by decide +kernel
theorem dX8_pulses_74 : decode cX8_pulses 74 = .ok (.iload 4, 2) := by decide +kernel
theorem dX8_pulses_76 : decode cX8_pulses 76 = .ok (.iconst 1, 1) := by decide +kernel
theorem dX8_pulses_77 : decode cX8_pulses 77 = .ok (.iadd, 1) := by decide +kernel
theorem dX8_pulses_78 : decode cX8_pulses 78 = .ok (.istore 4, 2) := by decide +kernel
theorem dX8_pulses_80 : decode cX8_pulses 80 = .ok (.iload 4, 2) := by decide +kernel
theorem dX8_pulses_82 : decode cX8_pulses 82 = .ok (.iload 5, 2) := by decide +kernel
theorem dX8_pulses_84 : decode cX8_pulses 84 = .ok (.if_icmp .le 8, 3) := by decide +kernel
theorem dX8_pulses_87 : decode cX8_pulses 87 = .ok (.iload 4, 2) := by decide +kernel
theorem dX8_pulses_89 : decode cX8_pulses 89 = .ok (.goto 5, 3) := by decide +kernel
theorem dX8_pulses_92 : decode cX8_pulses 92 = .ok (.iload 5, 2) := by decide +kernel
theorem dX8_pulses_94 : decode cX8_pulses 94 = .ok (.istore 5, 2) := by decide +kernel
theorem dX8_pulses_96 : decode cX8_pulses 96 = .ok (.goto (-61), 3) := by decide +kernel
theorem dX8_pulses_99 : decode cX8_pulses 99 = .ok (.iload_n 2, 1) := by decide +kernel
theorem dX8_pulses_100 : decode cX8_pulses 100 = .ok (.ifCond .ne 7, 3) := by decide +kernel
theorem dX8_pulses_103 : decode cX8_pulses 103 = .ok (.iload_n 3, 1) := by decide +kernel
theorem dX8_pulses_104 : decode cX8_pulses 104 = .ok (.goto 5, 3) := by decide +kernel
theorem dX8_pulses_107 : decode cX8_pulses 107 = .ok (.iload 5, 2) := by decide +kernel
theorem dX8_pulses_109 : decode cX8_pulses 109 = .ok (.ireturn, 1) := by decide +kernel
theorem dX8_next_0 : decode cX8_next 0 = .ok (.iload_n 1, 1) := by decide +kernel
theorem dX8_next_1 : decode cX8_next 1 = .ok (.invokestatic 108, 3) := by decide +kernel
theorem dX8_next_4 : decode cX8_next 4 = .ok (.ifCond .eq 7, 3) := by decide +kernel
theorem dX8_next_7 : decode cX8_next 7 = .ok (.iload_n 2, 1) := by decide +kernel
theorem dX8_next_8 : decode cX8_next 8 = .ok (.ifCond .ge 6, 3) := by decide +kernel
theorem dX8_next_11 : decode cX8_next 11 = .ok (.ldc 112, 2) := by decide +kernel
theorem dX8_next_13 : decode cX8_next 13 = .ok (.ireturn, 1) := by decide +kernel
theorem dX8_next_14 : decode cX8_next 14 = .ok (.aload_n 0, 1) := by decide +kernel
theorem dX8_next_15 : decode cX8_next 15 = .ok (.iconst 0, 1) := by decide +kernel
theorem dX8_next_16 : decode cX8_next 16 = .ok (.bipush 61, 2) := by decide +kernel
theorem dX8_next_18 : decode cX8_next 18 = .ok (.invokevirtual 45, 3) := by decide +kernel
theorem dX8_next_21 : decode cX8_next 21 = .ok (.iconst 0, 1) := by decide +kernel
theorem dX8_next_22 : decode cX8_next 22 = .ok (.istore_n 3, 1) := by decide +kernel
theorem dX8_next_23 : decode cX8_next 23 = .ok (.aload_n 0, 1) := by decide +kernel
theorem dX8_next_24 : decode cX8_next 24 = .ok (.bipush 61, 2) := by decide +kernel
theorem dX8_next_26 : decode cX8_next 26 = .ok (.invokevirtual 175, 3) := by decide +kernel
theorem dX8_next_29 : decode cX8_next 29 = .ok (.ifCond .eq 25, 3) := by decide +kernel
theorem dX8_next_32 : decode cX8_next 32 = .ok (.iload_n 3, 1) := by decide +kernel
theorem dX8_next_33 : decode cX8_next 33 = .ok (.iload_n 2, 1) := by decide +kernel
theorem dX8_next_34 : decode cX8_next 34 = .ok (.if_icmp .lt 14, 3) := by decide +kernel
theorem dX8_next_37 : decode cX8_next 37 = .ok (.aload_n 0, 1) := by decide +kernel
theorem dX8_next_38 : decode cX8_next 38 = .ok (.getfield 20, 3) := by decide +kernel
theorem dX8_next_41 : decode cX8_next 41 = .ok (.iload_n 1, 1) := by decide +kernel
theorem dX8_next_42 : decode cX8_next 42 = .ok (.iaload, 1) := by decide +kernel
theorem dX8_next_43 : decode cX8_next 43 = .ok (.ifCond .eq 5, 3) := by decide +kernel
theorem dX8_next_46 : decode cX8_next 46 = .ok (.iload_n 3, 1) := by decide +kernel
theorem dX8_next_47 : decode cX8_next 47 = .ok (.ireturn, 1) := by decide +kernel
theorem dX8_next_48 : decode cX8_next 48 = .ok (.iinc 3 1, 3) := by decide +kernel
theorem dX8_next_51 : decode cX8_next 51 = .ok (.goto (-28), 3) := by decide +kernel
theorem dX8_next_54 : decode cX8_next 54 = .ok (.ldc 115, 2) := by decide +kernel
theorem dX8_next_56 : decode cX8_next 56 = .ok (.ireturn, 1) := by decide +kernel
theorem dX8_meets_0 : decode cX8_meets 0 = .ok (.aload_n 0, 1) := by decide +kernel
theorem dX8_meets_1 : decode cX8_meets 1 = .ok (.iconst 0, 1) := by decide +kernel
theorem dX8_meets_2 : decode cX8_meets 2 = .ok (.bipush 61, 2) := by decide +kernel
theorem dX8_meets_4 : decode cX8_meets 4 = .ok (.invokevirtual 45, 3) := by decide +kernel
theorem dX8_meets_7 : decode cX8_meets 7 = .ok (.iconst 0, 1) := by decide +kernel
theorem dX8_meets_8 : decode cX8_meets 8 = .ok (.istore 4, 2) := by decide +kernel
theorem dX8_meets_10 : decode cX8_meets 10 = .ok (.iconst 1, 1) := by decide +kernel
theorem dX8_meets_11 : decode cX8_meets 11 = .ok (.istore 5, 2) := by decide +kernel
theorem dX8_meets_13 : decode cX8_meets 13 = .ok (.iload 5, 2) := by decide +kernel
theorem dX8_meets_15 : decode cX8_meets 15 = .ok (.ifCond .eq 53, 3) := by decide +kernel
theorem dX8_meets_18 : decode cX8_meets 18 = .ok (.aload_n 0, 1) := by decide +kernel
theorem dX8_meets_19 : decode cX8_meets 19 = .ok (.getfield 7, 3) := by decide +kernel
theorem dX8_meets_22 : decode cX8_meets 22 = .ok (.bipush 61, 2) := by decide +kernel
theorem dX8_meets_24 : decode cX8_meets 24 = .ok (.iaload, 1) := by decide +kernel
theorem dX8_meets_25 : decode cX8_meets 25 = .ok (.iload_n 1, 1) := by decide +kernel
theorem dX8_meets_26 : decode cX8_meets 26 = .ok (.if_icmp .ne 28, 3) := by decide +kernel
theorem dX8_meets_29 : decode cX8_meets 29 = .ok (.aload_n 0, 1) := by decide +kernel
theorem dX8_meets_30 : decode cX8_meets 30 = .ok (.getfield 7, 3) := by decide +kernel
theorem dX8_meets_33 : decode cX8_meets 33 = .ok (.bipush 62, 2) := by decide +kernel
theorem dX8_meets_35 : decode cX8_meets 35 = .ok (.iaload, 1) := by decide +kernel
theorem dX8_meets_36 : decode cX8_meets 36 = .ok (.iload_n 2, 1) := by decide +kernel
theorem dX8_meets_37 : decode cX8_meets 37 = .ok (.if_icmp .ne 17, 3) := by decide +kernel
theorem dX8_meets_40 : decode cX8_meets 40 = .ok (.aload_n 0, 1) := by decide +kernel
theorem dX8_meets_41 : decode cX8_meets 41 = .ok (.getfield 7, 3) := by decide +kernel
theorem dX8_meets_44 : decode cX8_meets 44 = .ok (.bipush 63, 2) := by decide +kernel
theorem dX8_meets_46 : decode cX8_meets 46 = .ok (.iaload, 1) := by decide +kernel
theorem dX8_meets_47 : decode cX8_meets 47 = .ok (.iload_n 3, 1) := by decide +kernel
theorem dX8_meets_48 : decode cX8_meets 48 = .ok (.if_icmp .ne 6, 3) := by decide +kernel
theorem dX8_meets_51 : decode cX8_meets 51 = .ok (.iload 4, 2) := by decide +kernel
theorem dX8_meets_53 : decode cX8_meets 53 = .ok (.ireturn, 1) := by decide +kernel
theorem dX8_meets_54 : decode cX8_meets 54 = .ok (.aload_n 0, 1) := by decide +kernel
theorem dX8_meets_55 : decode cX8_meets 55 = .ok (.bipush 61, 2) := by decide +kernel
theorem dX8_meets_57 : decode cX8_meets 57 = .ok (.invokevirtual 175, 3) := by decide +kernel
theorem dX8_meets_60 : decode cX8_meets 60 = .ok (.istore 5, 2) := by decide +kernel
theorem dX8_meets_62 : decode cX8_meets 62 = .ok (.iinc 4 1, 3) := by decide +kernel
theorem dX8_meets_65 : decode cX8_meets 65 = .ok (.goto (-52), 3) := by decide +kernel
theorem dX8_meets_68 : decode cX8_meets 68 = .ok (.ldc 115, 2) := by decide +kernel
theorem dX8_meets_70 : decode cX8_meets 70 = .ok (.ireturn, 1) := by decide +kernel
theorem dX8_reach_0 : decode cX8_reach 0 = .ok (.iload_n 1, 1) := by decide +kernel
theorem dX8_reach_1 : decode cX8_reach 1 = .ok (.invokestatic 108, 3) := by decide +kernel
theorem dX8_reach_4 : decode cX8_reach 4 = .ok (.ifCond .eq 13, 3) := by decide +kernel
theorem dX8_reach_7 : decode cX8_reach 7 = .ok (.iload_n 2, 1) := by decide +kernel
theorem dX8_reach_8 : decode cX8_reach 8 = .ok (.i2l, 1) := by decide +kernel
theorem dX8_reach_9 : decode cX8_reach 9 = .ok (.lconst 0, 1) := by decide +kernel
theorem dX8_reach_10 : decode cX8_reach 10 = .ok (.lconst 1, 1) := by decide +kernel
theorem dX8_reach_11 : decode cX8_reach 11 = .ok (.invokestatic 51, 3) := by decide +kernel
theorem dX8_reach_14 : decode cX8_reach 14 = .ok (.ifCond .ne 6, 3) := by decide +kernel
theorem dX8_reach_17 : decode cX8_reach 17 = .ok (.ldc 112, 2) := by decide +kernel
theorem dX8_reach_19 : decode cX8_reach 19 = .ok (.ireturn, 1) := by decide +kernel
theorem dX8_reach_20 : decode cX8_reach 20 = .ok (.aload_n 0, 1) := by decide +kernel
theorem dX8_reach_21 : decode cX8_reach 21 = .ok (.iconst 0, 1) := by decide +kernel
theorem dX8_reach_22 : decode cX8_reach 22 = .ok (.bipush 61, 2) := by decide +kernel
theorem dX8_reach_24 : decode cX8_reach 24 = .ok (.invokevirtual 45, 3) := by decide +kernel
theorem dX8_reach_27 : decode cX8_reach 27 = .ok (.aload_n 0, 1) := by decide +kernel
theorem dX8_reach_28 : decode cX8_reach 28 = .ok (.getfield 7, 3) := by decide +kernel
theorem dX8_reach_31 : decode cX8_reach 31 = .ok (.iload_n 1, 1) := by decide +kernel
theorem dX8_reach_32 : decode cX8_reach 32 = .ok (.iaload, 1) := by decide +kernel
theorem dX8_reach_33 : decode cX8_reach 33 = .ok (.istore_n 3, 1) := by decide +kernel
theorem dX8_reach_34 : decode cX8_reach 34 = .ok (.aload_n 0, 1) := by decide +kernel
theorem dX8_reach_35 : decode cX8_reach 35 = .ok (.bipush 61, 2) := by decide +kernel
theorem dX8_reach_37 : decode cX8_reach 37 = .ok (.invokevirtual 175, 3) := by decide +kernel
theorem dX8_reach_40 : decode cX8_reach 40 = .ok (.ifCond .eq 49, 3) := by decide +kernel
theorem dX8_reach_43 : decode cX8_reach 43 = .ok (.aload_n 0, 1) := by decide +kernel
theorem dX8_reach_44 : decode cX8_reach 44 = .ok (.getfield 7, 3) := by decide +kernel
theorem dX8_reach_47 : decode cX8_reach 47 = .ok (.bipush 61, 2) := by decide +kernel
theorem dX8_reach_49 : decode cX8_reach 49 = .ok (.iload_n 1, 1) := by decide +kernel
theorem dX8_reach_50 : decode cX8_reach 50 = .ok (.iadd, 1) := by decide +kernel
theorem dX8_reach_51 : decode cX8_reach 51 = .ok (.iaload, 1) := by decide +kernel
theorem dX8_reach_52 : decode cX8_reach 52 = .ok (.istore 4, 2) := by decide +kernel
theorem dX8_reach_54 : decode cX8_reach 54 = .ok (.iload_n 2, 1) := by decide +kernel
theorem dX8_reach_55 : decode cX8_reach 55 = .ok (.ifCond .ne 18, 3) := by decide +kernel
theorem dX8_reach_58 : decode cX8_reach 58 = .ok (.iload 4, 2) := by decide +kernel
theorem dX8_reach_60 : decode cX8_reach 60 = .ok (.iload_n 3, 1) := by decide +kernel
theorem dX8_reach_61 : decode cX8_reach 61 = .ok (.if_icmp .ge 8, 3) := by decide +kernel
theorem dX8_reach_64 : decode cX8_reach 64 = .ok (.iload 4, 2) := by decide +kernel
theorem dX8_reach_66 : decode cX8_reach 66 = .ok (.goto 19, 3) := by decide +kernel
theorem dX8_reach_69 : decode cX8_reach 69 = .ok (.iload_n 3, 1) := by decide +kernel
theorem dX8_reach_70 : decode cX8_reach 70 = .ok (.goto 15, 3) := by decide +kernel
theorem dX8_reach_73 : decode cX8_reach 73 = .ok (.iload 4, 2) := by decide +kernel
theorem dX8_reach_75 : decode cX8_reach 75 = .ok (.iload_n 3, 1) := by decide +kernel
theorem dX8_reach_76 : decode cX8_reach 76 = .ok (.if_icmp .le 8, 3) := by decide +kernel
theorem dX8_reach_79 : decode cX8_reach 79 = .ok (.iload 4, 2) := by decide +kernel
theorem dX8_reach_81 : decode cX8_reach 81 = .ok (.goto 4, 3) := by decide +kernel
theorem dX8_reach_84 : decode cX8_reach 84 = .ok (.iload_n 3, 1) := by decide +kernel
theorem dX8_reach_85 : decode cX8_reach 85 = .ok (.istore_n 3, 1) := by decide +kernel
theorem dX8_reach_86 : decode cX8_reach 86 = .ok (.goto (-52), 3) := by decide +kernel
theorem dX8_reach_89 : decode cX8_reach 89 = .ok (.iload_n 3, 1) := by decide +kernel
theorem dX8_reach_90 : decode cX8_reach 90 = .ok (.ireturn, 1) := by decide +kernel
theorem dX8_offBy_0 : decode cX8_offBy 0 = .ok (.aload_n 0, 1) := by decide +kernel
theorem dX8_offBy_1 : decode cX8_offBy 1 = .ok (.getfield 7, 3) := by decide +kernel
theorem dX8_offBy_4 : decode cX8_offBy 4 = .ok (.iload_n 1, 1) := by decide +kernel
theorem dX8_offBy_5 : decode cX8_offBy 5 = .ok (.iconst 1, 1) := by decide +kernel
theorem dX8_offBy_6 : decode cX8_offBy 6 = .ok (.iadd, 1) := by decide +kernel
theorem dX8_offBy_7 : decode cX8_offBy 7 = .ok (.iaload, 1) := by decide +kernel
theorem dX8_offBy_8 : decode cX8_offBy 8 = .ok (.aload_n 0, 1) := by decide +kernel
theorem dX8_offBy_9 : decode cX8_offBy 9 = .ok (.getfield 7, 3) := by decide +kernel
theorem dX8_offBy_12 : decode cX8_offBy 12 = .ok (.iload_n 1, 1) := by decide +kernel
theorem dX8_offBy_13 : decode cX8_offBy 13 = .ok (.iconst 2, 1) := by decide +kernel
theorem dX8_offBy_14 : decode cX8_offBy 14 = .ok (.iadd, 1) := by decide +kernel
theorem dX8_offBy_15 : decode cX8_offBy 15 = .ok (.iaload, 1) := by decide +kernel
theorem dX8_offBy_16 : decode cX8_offBy 16 = .ok (.aload_n 0, 1) := by decide +kernel
theorem dX8_offBy_17 : decode cX8_offBy 17 = .ok (.getfield 7, 3) := by decide +kernel
theorem dX8_offBy_20 : decode cX8_offBy 20 = .ok (.iload_n 1, 1) := by decide +kernel
theorem dX8_offBy_21 : decode cX8_offBy 21 = .ok (.iconst 3, 1) := by decide +kernel
theorem dX8_offBy_22 : decode cX8_offBy 22 = .ok (.iadd, 1) := by decide +kernel
theorem dX8_offBy_23 : decode cX8_offBy 23 = .ok (.iaload, 1) := by decide +kernel
theorem dX8_offBy_24 : decode cX8_offBy 24 = .ok (.invokestatic 69, 3) := by decide +kernel
theorem dX8_offBy_27 : decode cX8_offBy 27 = .ok (.istore_n 2, 1) := by decide +kernel
theorem dX8_offBy_28 : decode cX8_offBy 28 = .ok (.iconst 1, 1) := by decide +kernel
theorem dX8_offBy_29 : decode cX8_offBy 29 = .ok (.istore_n 3, 1) := by decide +kernel
theorem dX8_offBy_30 : decode cX8_offBy 30 = .ok (.iload_n 3, 1) := by decide +kernel
theorem dX8_offBy_31 : decode cX8_offBy 31 = .ok (.iconst 4, 1) := by decide +kernel
theorem dX8_offBy_32 : decode cX8_offBy 32 = .ok (.if_icmp .ge 119, 3) := by decide +kernel
theorem dX8_offBy_35 : decode cX8_offBy 35 = .ok (.aload_n 0, 1) := by decide +kernel
theorem dX8_offBy_36 : decode cX8_offBy 36 = .ok (.getfield 7, 3) := by decide +kernel
theorem dX8_offBy_39 : decode cX8_offBy 39 = .ok (.iload_n 1, 1) := by decide +kernel
theorem dX8_offBy_40 : decode cX8_offBy 40 = .ok (.iload_n 3, 1) := by decide +kernel
theorem dX8_offBy_41 : decode cX8_offBy 41 = .ok (.iadd, 1) := by decide +kernel
theorem dX8_offBy_42 : decode cX8_offBy 42 = .ok (.iaload, 1) := by decide +kernel
theorem dX8_offBy_43 : decode cX8_offBy 43 = .ok (.istore 4, 2) := by decide +kernel
theorem dX8_offBy_45 : decode cX8_offBy 45 = .ok (.iconst 1, 1) := by decide +kernel
theorem dX8_offBy_46 : decode cX8_offBy 46 = .ok (.istore 5, 2) := by decide +kernel
theorem dX8_offBy_48 : decode cX8_offBy 48 = .ok (.iload 5, 2) := by decide +kernel
theorem dX8_offBy_50 : decode cX8_offBy 50 = .ok (.iload_n 2, 1) := by decide +kernel
theorem dX8_offBy_51 : decode cX8_offBy 51 = .ok (.if_icmp .gt 94, 3) := by decide +kernel
theorem dX8_offBy_54 : decode cX8_offBy 54 = .ok (.aload_n 0, 1) := by decide +kernel
theorem dX8_offBy_55 : decode cX8_offBy 55 = .ok (.getfield 7, 3) := by decide +kernel
theorem dX8_offBy_58 : decode cX8_offBy 58 = .ok (.iload_n 1, 1) := by decide +kernel
theorem dX8_offBy_59 : decode cX8_offBy 59 = .ok (.iaload, 1) := by decide +kernel
theorem dX8_offBy_60 : decode cX8_offBy 60 = .ok (.iload 4, 2) := by decide +kernel
theorem dX8_offBy_62 : decode cX8_offBy 62 = .ok (.iload_n 2, 1) := by decide +kernel
theorem dX8_offBy_63 : decode cX8_offBy 63 = .ok (.iload 5, 2) := by decide +kernel
theorem dX8_offBy_65 : decode cX8_offBy 65 = .ok (.invokestatic 83, 3) := by decide +kernel
theorem dX8_offBy_68 : decode cX8_offBy 68 = .ok (.iload_n 2, 1) := by decide +kernel
theorem dX8_offBy_69 : decode cX8_offBy 69 = .ok (.imul, 1) := by decide +kernel
theorem dX8_offBy_70 : decode cX8_offBy 70 = .ok (.iload 5, 2) := by decide +kernel
theorem dX8_offBy_72 : decode cX8_offBy 72 = .ok (.iload 4, 2) := by decide +kernel
theorem dX8_offBy_74 : decode cX8_offBy 74 = .ok (.imul, 1) := by decide +kernel
theorem dX8_offBy_75 : decode cX8_offBy 75 = .ok (.isub, 1) := by decide +kernel
theorem dX8_offBy_76 : decode cX8_offBy 76 = .ok (.invokestatic 65, 3) := by decide +kernel
theorem dX8_offBy_79 : decode cX8_offBy 79 = .ok (.istore 6, 2) := by decide +kernel
theorem dX8_offBy_81 : decode cX8_offBy 81 = .ok (.iload 6, 2) := by decide +kernel
theorem dX8_offBy_83 : decode cX8_offBy 83 = .ok (.aload_n 0, 1) := by decide +kernel
theorem dX8_offBy_84 : decode cX8_offBy 84 = .ok (.getfield 183, 3) := by decide +kernel
theorem dX8_offBy_87 : decode cX8_offBy 87 = .ok (.imul, 1) := by decide +kernel
theorem dX8_offBy_88 : decode cX8_offBy 88 = .ok (.aload_n 0, 1) := by decide +kernel
theorem dX8_offBy_89 : decode cX8_offBy 89 = .ok (.getfield 186, 3) := by decide +kernel
theorem dX8_offBy_92 : decode cX8_offBy 92 = .ok (.iload_n 2, 1) := by decide +kernel
theorem dX8_offBy_93 : decode cX8_offBy 93 = .ok (.imul, 1) := by decide +kernel
theorem dX8_offBy_94 : decode cX8_offBy 94 = .ok (.if_icmp .le 7, 3) := by decide +kernel
theorem dX8_offBy_97 : decode cX8_offBy 97 = .ok (.iconst 1, 1) := by decide +kernel
theorem dX8_offBy_98 : decode cX8_offBy 98 = .ok (.goto 4, 3) := by decide +kernel
theorem dX8_offBy_101 : decode cX8_offBy 101 = .ok (.iconst 0, 1) := by decide +kernel
theorem dX8_offBy_102 : decode cX8_offBy 102 = .ok (.istore 7, 2) := by decide +kernel
theorem dX8_offBy_104 : decode cX8_offBy 104 = .ok (.aload_n 0, 1) := by decide +kernel
theorem dX8_offBy_105 : decode cX8_offBy 105 = .ok (.iload 7, 2) := by decide +kernel
theorem dX8_offBy_107 : decode cX8_offBy 107 = .ok (.ifCond .eq 8, 3) := by decide +kernel
theorem dX8_offBy_110 : decode cX8_offBy 110 = .ok (.iload 6, 2) := by decide +kernel
theorem dX8_offBy_112 : decode cX8_offBy 112 = .ok (.goto 7, 3) := by decide +kernel
theorem dX8_offBy_115 : decode cX8_offBy 115 = .ok (.aload_n 0, 1) := by decide +kernel
theorem dX8_offBy_116 : decode cX8_offBy 116 = .ok (.getfield 186, 3) := by decide +kernel
theorem dX8_offBy_119 : decode cX8_offBy 119 = .ok (.putfield 186, 3) := by decide +kernel
theorem dX8_offBy_122 : decode cX8_offBy 122 = .ok (.aload_n 0, 1) := by decide +kernel
theorem dX8_offBy_123 : decode cX8_offBy 123 = .ok (.iload 7, 2) := by decide +kernel
theorem dX8_offBy_125 : decode cX8_offBy 125 = .ok (.ifCond .eq 7, 3) := by decide +kernel
theorem dX8_offBy_128 : decode cX8_offBy 128 = .ok (.iload_n 2, 1) := by decide +kernel
theorem dX8_offBy_129 : decode cX8_offBy 129 = .ok (.goto 7, 3) := by decide +kernel
theorem dX8_offBy_132 : decode cX8_offBy 132 = .ok (.aload_n 0, 1) := by decide +kernel
theorem dX8_offBy_133 : decode cX8_offBy 133 = .ok (.getfield 183, 3) := by decide +kernel
theorem dX8_offBy_136 : decode cX8_offBy 136 = .ok (.putfield 183, 3) := by decide +kernel
theorem dX8_offBy_139 : decode cX8_offBy 139 = .ok (.iinc 5 1, 3) := by decide +kernel
theorem dX8_offBy_142 : decode cX8_offBy 142 = .ok (.goto (-94), 3) := by decide +kernel
theorem dX8_offBy_145 : decode cX8_offBy 145 = .ok (.iinc 3 1, 3) := by decide +kernel
theorem dX8_offBy_148 : decode cX8_offBy 148 = .ok (.goto (-118), 3) := by decide +kernel
theorem dX8_offBy_151 : decode cX8_offBy 151 = .ok (.return_, 1) := by decide +kernel
theorem dX8_common_0 : decode cX8_common 0 = .ok (.lload_n 0, 1) := by decide +kernel
theorem dX8_common_1 : decode cX8_common 1 = .ok (.lstore 4, 2) := by decide +kernel
theorem dX8_common_3 : decode cX8_common 3 = .ok (.lload_n 2, 1) := by decide +kernel
theorem dX8_common_4 : decode cX8_common 4 = .ok (.lstore 6, 2) := by decide +kernel
theorem dX8_common_6 : decode cX8_common 6 = .ok (.lload 6, 2) := by decide +kernel
theorem dX8_common_8 : decode cX8_common 8 = .ok (.lconst 0, 1) := by decide +kernel
theorem dX8_common_9 : decode cX8_common 9 = .ok (.lcmp, 1) := by decide +kernel
theorem dX8_common_10 : decode cX8_common 10 = .ok (.ifCond .eq 21, 3) := by decide +kernel
theorem dX8_common_13 : decode cX8_common 13 = .ok (.lload 4, 2) := by decide +kernel
theorem dX8_common_15 : decode cX8_common 15 = .ok (.lload 6, 2) := by decide +kernel
theorem dX8_common_17 : decode cX8_common 17 = .ok (.lrem, 1) := by decide +kernel
theorem dX8_common_18 : decode cX8_common 18 = .ok (.lstore 8, 2) := by decide +kernel
theorem dX8_common_20 : decode cX8_common 20 = .ok (.lload 6, 2) := by decide +kernel
theorem dX8_common_22 : decode cX8_common 22 = .ok (.lstore 4, 2) := by decide +kernel
theorem dX8_common_24 : decode cX8_common 24 = .ok (.lload 8, 2) := by decide +kernel
theorem dX8_common_26 : decode cX8_common 26 = .ok (.lstore 6, 2) := by decide +kernel
theorem dX8_common_28 : decode cX8_common 28 = .ok (.goto (-22), 3) := by decide +kernel
theorem dX8_common_31 : decode cX8_common 31 = .ok (.lload 4, 2) := by decide +kernel
theorem dX8_common_33 : decode cX8_common 33 = .ok (.lreturn, 1) := by decide +kernel
theorem dX8_off_0 : decode cX8_off 0 = .ok (.iload_n 1, 1) := by decide +kernel
theorem dX8_off_1 : decode cX8_off 1 = .ok (.i2l, 1) := by decide +kernel
theorem dX8_off_2 : decode cX8_off 2 = .ok (.lconst 0, 1) := by decide +kernel
theorem dX8_off_3 : decode cX8_off 3 = .ok (.lconst 1, 1) := by decide +kernel
theorem dX8_off_4 : decode cX8_off 4 = .ok (.invokestatic 51, 3) := by decide +kernel
theorem dX8_off_7 : decode cX8_off 7 = .ok (.ifCond .ne 6, 3) := by decide +kernel
theorem dX8_off_10 : decode cX8_off 10 = .ok (.ldc 112, 2) := by decide +kernel
theorem dX8_off_12 : decode cX8_off 12 = .ok (.ireturn, 1) := by decide +kernel
theorem dX8_off_13 : decode cX8_off 13 = .ok (.aload_n 0, 1) := by decide +kernel
theorem dX8_off_14 : decode cX8_off 14 = .ok (.iconst 0, 1) := by decide +kernel
theorem dX8_off_15 : decode cX8_off 15 = .ok (.putfield 186, 3) := by decide +kernel
theorem dX8_off_18 : decode cX8_off 18 = .ok (.aload_n 0, 1) := by decide +kernel
theorem dX8_off_19 : decode cX8_off 19 = .ok (.iconst 1, 1) := by decide +kernel
theorem dX8_off_20 : decode cX8_off 20 = .ok (.putfield 183, 3) := by decide +kernel
theorem dX8_off_23 : decode cX8_off 23 = .ok (.aload_n 0, 1) := by decide +kernel
theorem dX8_off_24 : decode cX8_off 24 = .ok (.getfield 7, 3) := by decide +kernel
theorem dX8_off_27 : decode cX8_off 27 = .ok (.iconst 5, 1) := by decide +kernel
theorem dX8_off_28 : decode cX8_off 28 = .ok (.iaload, 1) := by decide +kernel
theorem dX8_off_29 : decode cX8_off 29 = .ok (.i2l, 1) := by decide +kernel
theorem dX8_off_30 : decode cX8_off 30 = .ok (.lconst 0, 1) := by decide +kernel
theorem dX8_off_31 : decode cX8_off 31 = .ok (.ldc2_w 106, 3) := by decide +kernel
theorem dX8_off_34 : decode cX8_off 34 = .ok (.invokestatic 51, 3) := by decide +kernel
theorem dX8_off_37 : decode cX8_off 37 = .ok (.ifCond .eq 8, 3) := by decide +kernel
theorem dX8_off_40 : decode cX8_off 40 = .ok (.aload_n 0, 1) := by decide +kernel
theorem dX8_off_41 : decode cX8_off 41 = .ok (.iconst 5, 1) := by decide +kernel
theorem dX8_off_42 : decode cX8_off 42 = .ok (.invokevirtual 189, 3) := by decide +kernel
theorem dX8_off_45 : decode cX8_off 45 = .ok (.iconst 0, 1) := by decide +kernel
theorem dX8_off_46 : decode cX8_off 46 = .ok (.istore_n 2, 1) := by decide +kernel
theorem dX8_off_47 : decode cX8_off 47 = .ok (.iload_n 2, 1) := by decide +kernel
theorem dX8_off_48 : decode cX8_off 48 = .ok (.aload_n 0, 1) := by decide +kernel
theorem dX8_off_49 : decode cX8_off 49 = .ok (.getfield 7, 3) := by decide +kernel
theorem dX8_off_52 : decode cX8_off 52 = .ok (.bipush 12, 2) := by decide +kernel
theorem dX8_off_54 : decode cX8_off 54 = .ok (.iaload, 1) := by decide +kernel
theorem dX8_off_55 : decode cX8_off 55 = .ok (.if_icmp .ge 34, 3) := by decide +kernel
theorem dX8_off_58 : decode cX8_off 58 = .ok (.aload_n 0, 1) := by decide +kernel
theorem dX8_off_59 : decode cX8_off 59 = .ok (.getfield 7, 3) := by decide +kernel
theorem dX8_off_62 : decode cX8_off 62 = .ok (.bipush 13, 2) := by decide +kernel
theorem dX8_off_64 : decode cX8_off 64 = .ok (.iconst 4, 1) := by decide +kernel
theorem dX8_off_65 : decode cX8_off 65 = .ok (.iload_n 2, 1) := by decide +kernel
theorem dX8_off_66 : decode cX8_off 66 = .ok (.imul, 1) := by decide +kernel
theorem dX8_off_67 : decode cX8_off 67 = .ok (.iadd, 1) := by decide +kernel
theorem dX8_off_68 : decode cX8_off 68 = .ok (.iaload, 1) := by decide +kernel
theorem dX8_off_69 : decode cX8_off 69 = .ok (.iconst 3, 1) := by decide +kernel
theorem dX8_off_70 : decode cX8_off 70 = .ok (.if_icmp .ge 13, 3) := by decide +kernel
theorem dX8_off_73 : decode cX8_off 73 = .ok (.aload_n 0, 1) := by decide +kernel
theorem dX8_off_74 : decode cX8_off 74 = .ok (.bipush 13, 2) := by decide +kernel
theorem dX8_off_76 : decode cX8_off 76 = .ok (.iconst 4, 1) := by decide +kernel
theorem dX8_off_77 : decode cX8_off 77 = .ok (.iload_n 2, 1) := by decide +kernel
theorem dX8_off_78 : decode cX8_off 78 = .ok (.imul, 1) := by decide +kernel
theorem dX8_off_79 : decode cX8_off 79 = .ok (.iadd, 1) := by decide +kernel
theorem dX8_off_80 : decode cX8_off 80 = .ok (.invokevirtual 189, 3) := by decide +kernel
theorem dX8_off_83 : decode cX8_off 83 = .ok (.iinc 2 1, 3) := by decide +kernel
theorem dX8_off_86 : decode cX8_off 86 = .ok (.goto (-39), 3) := by decide +kernel
theorem dX8_off_89 : decode cX8_off 89 = .ok (.aload_n 0, 1) := by decide +kernel
theorem dX8_off_90 : decode cX8_off 90 = .ok (.getfield 186, 3) := by decide +kernel
theorem dX8_off_93 : decode cX8_off 93 = .ok (.i2l, 1) := by decide +kernel
theorem dX8_off_94 : decode cX8_off 94 = .ok (.aload_n 0, 1) := by decide +kernel
theorem dX8_off_95 : decode cX8_off 95 = .ok (.getfield 183, 3) := by decide +kernel
theorem dX8_off_98 : decode cX8_off 98 = .ok (.i2l, 1) := by decide +kernel
theorem dX8_off_99 : decode cX8_off 99 = .ok (.invokestatic 192, 3) := by decide +kernel
theorem dX8_off_102 : decode cX8_off 102 = .ok (.l2i, 1) := by decide +kernel
theorem dX8_off_103 : decode cX8_off 103 = .ok (.istore_n 2, 1) := by decide +kernel
theorem dX8_off_104 : decode cX8_off 104 = .ok (.iload_n 1, 1) := by decide +kernel
theorem dX8_off_105 : decode cX8_off 105 = .ok (.ifCond .ne 12, 3) := by decide +kernel
theorem dX8_off_108 : decode cX8_off 108 = .ok (.aload_n 0, 1) := by decide +kernel
theorem dX8_off_109 : decode cX8_off 109 = .ok (.getfield 186, 3) := by decide +kernel
theorem dX8_off_112 : decode cX8_off 112 = .ok (.iload_n 2, 1) := by decide +kernel
theorem dX8_off_113 : decode cX8_off 113 = .ok (.idiv, 1) := by decide +kernel
theorem dX8_off_114 : decode cX8_off 114 = .ok (.goto 9, 3) := by decide +kernel
theorem dX8_off_117 : decode cX8_off 117 = .ok (.aload_n 0, 1) := by decide +kernel
theorem dX8_off_118 : decode cX8_off 118 = .ok (.getfield 183, 3) := by decide +kernel
theorem dX8_off_121 : decode cX8_off 121 = .ok (.iload_n 2, 1) := by decide +kernel
theorem dX8_off_122 : decode cX8_off 122 = .ok (.idiv, 1) := by decide +kernel
theorem dX8_off_123 : decode cX8_off 123 = .ok (.ireturn, 1) := by decide +kernel
theorem dX8_lost_0 : decode cX8_lost 0 = .ok (.iload_n 1, 1) := by decide +kernel
theorem dX8_lost_1 : decode cX8_lost 1 = .ok (.i2l, 1) := by decide +kernel
theorem dX8_lost_2 : decode cX8_lost 2 = .ok (.lconst 0, 1) := by decide +kernel
theorem dX8_lost_3 : decode cX8_lost 3 = .ok (.ldc2_w 196, 3) := by decide +kernel
theorem dX8_lost_6 : decode cX8_lost 6 = .ok (.invokestatic 51, 3) := by decide +kernel
theorem dX8_lost_9 : decode cX8_lost 9 = .ok (.ifCond .eq 35, 3) := by decide +kernel
theorem dX8_lost_12 : decode cX8_lost 12 = .ok (.iload_n 1, 1) := by decide +kernel
theorem dX8_lost_13 : decode cX8_lost 13 = .ok (.aload_n 0, 1) := by decide +kernel
theorem dX8_lost_14 : decode cX8_lost 14 = .ok (.iconst 0, 1) := by decide +kernel
theorem dX8_lost_15 : decode cX8_lost 15 = .ok (.invokevirtual 116, 3) := by decide +kernel
theorem dX8_lost_18 : decode cX8_lost 18 = .ok (.if_icmp .gt 26, 3) := by decide +kernel
theorem dX8_lost_21 : decode cX8_lost 21 = .ok (.iload_n 2, 1) := by decide +kernel
theorem dX8_lost_22 : decode cX8_lost 22 = .ok (.i2l, 1) := by decide +kernel
theorem dX8_lost_23 : decode cX8_lost 23 = .ok (.lconst 0, 1) := by decide +kernel
theorem dX8_lost_24 : decode cX8_lost 24 = .ok (.ldc2_w 57, 3) := by decide +kernel
theorem dX8_lost_27 : decode cX8_lost 27 = .ok (.invokestatic 51, 3) := by decide +kernel
theorem dX8_lost_30 : decode cX8_lost 30 = .ok (.ifCond .eq 14, 3) := by decide +kernel
theorem dX8_lost_33 : decode cX8_lost 33 = .ok (.iload 6, 2) := by decide +kernel
theorem dX8_lost_35 : decode cX8_lost 35 = .ok (.i2l, 1) := by decide +kernel
theorem dX8_lost_36 : decode cX8_lost 36 = .ok (.lconst 0, 1) := by decide +kernel
theorem dX8_lost_37 : decode cX8_lost 37 = .ok (.lconst 1, 1) := by decide +kernel
theorem dX8_lost_38 : decode cX8_lost 38 = .ok (.invokestatic 51, 3) := by decide +kernel
theorem dX8_lost_41 : decode cX8_lost 41 = .ok (.ifCond .ne 6, 3) := by decide +kernel
theorem dX8_lost_44 : decode cX8_lost 44 = .ok (.ldc 112, 2) := by decide +kernel
theorem dX8_lost_46 : decode cX8_lost 46 = .ok (.ireturn, 1) := by decide +kernel
theorem dX8_lost_47 : decode cX8_lost 47 = .ok (.aload_n 0, 1) := by decide +kernel
theorem dX8_lost_48 : decode cX8_lost 48 = .ok (.iconst 0, 1) := by decide +kernel
theorem dX8_lost_49 : decode cX8_lost 49 = .ok (.bipush 61, 2) := by decide +kernel
theorem dX8_lost_51 : decode cX8_lost 51 = .ok (.invokevirtual 45, 3) := by decide +kernel
theorem dX8_lost_54 : decode cX8_lost 54 = .ok (.lconst 1, 1) := by decide +kernel
theorem dX8_lost_55 : decode cX8_lost 55 = .ok (.lstore 7, 2) := by decide +kernel
theorem dX8_lost_57 : decode cX8_lost 57 = .ok (.iconst 0, 1) := by decide +kernel
theorem dX8_lost_58 : decode cX8_lost 58 = .ok (.istore 9, 2) := by decide +kernel
theorem dX8_lost_60 : decode cX8_lost 60 = .ok (.iload 9, 2) := by decide +kernel
theorem dX8_lost_62 : decode cX8_lost 62 = .ok (.iload_n 1, 1) := by decide +kernel
theorem dX8_lost_63 : decode cX8_lost 63 = .ok (.if_icmp .ge 68, 3) := by decide +kernel
theorem dX8_lost_66 : decode cX8_lost 66 = .ok (.aload_n 0, 1) := by decide +kernel
theorem dX8_lost_67 : decode cX8_lost 67 = .ok (.bipush 61, 2) := by decide +kernel
theorem dX8_lost_69 : decode cX8_lost 69 = .ok (.invokevirtual 175, 3) := by decide +kernel
theorem dX8_lost_72 : decode cX8_lost 72 = .ok (.istore 10, 2) := by decide +kernel
theorem dX8_lost_74 : decode cX8_lost 74 = .ok (.iconst 0, 1) := by decide +kernel
theorem dX8_lost_75 : decode cX8_lost 75 = .ok (.istore 11, 2) := by decide +kernel
theorem dX8_lost_77 : decode cX8_lost 77 = .ok (.iload 11, 2) := by decide +kernel
theorem dX8_lost_79 : decode cX8_lost 79 = .ok (.iconst 3, 1) := by decide +kernel
theorem dX8_lost_80 : decode cX8_lost 80 = .ok (.if_icmp .ge 37, 3) := by decide +kernel
theorem dX8_lost_83 : decode cX8_lost 83 = .ok (.aload_n 0, 1) := by decide +kernel
theorem dX8_lost_84 : decode cX8_lost 84 = .ok (.getfield 26, 3) := by decide +kernel
theorem dX8_lost_87 : decode cX8_lost 87 = .ok (.iconst 3, 1) := by decide +kernel
theorem dX8_lost_88 : decode cX8_lost 88 = .ok (.iload 9, 2) := by decide +kernel
theorem dX8_lost_90 : decode cX8_lost 90 = .ok (.imul, 1) := by decide +kernel
theorem dX8_lost_91 : decode cX8_lost 91 = .ok (.iload 11, 2) := by decide +kernel
theorem dX8_lost_93 : decode cX8_lost 93 = .ok (.iadd, 1) := by decide +kernel
theorem dX8_lost_94 : decode cX8_lost 94 = .ok (.iload 10, 2) := by decide +kernel
theorem dX8_lost_96 : decode cX8_lost 96 = .ok (.ifCond .eq 13, 3) := by decide +kernel
theorem dX8_lost_99 : decode cX8_lost 99 = .ok (.aload_n 0, 1) := by decide +kernel
theorem dX8_lost_100 : decode cX8_lost 100 = .ok (.getfield 20, 3) := by decide +kernel
theorem dX8_lost_103 : decode cX8_lost 103 = .ok (.iload 11, 2) := by decide +kernel
theorem dX8_lost_105 : decode cX8_lost 105 = .ok (.iaload, 1) := by decide +kernel
theorem dX8_lost_106 : decode cX8_lost 106 = .ok (.goto 4, 3) := by decide +kernel
theorem dX8_lost_109 : decode cX8_lost 109 = .ok (.iconst 0, 1) := by decide +kernel
theorem dX8_lost_110 : decode cX8_lost 110 = .ok (.iastore, 1) := by decide +kernel
theorem dX8_lost_111 : decode cX8_lost 111 = .ok (.iinc 11 1, 3) := by decide +kernel
theorem dX8_lost_114 : decode cX8_lost 114 = .ok (.goto (-37), 3) := by decide +kernel
theorem dX8_lost_117 : decode cX8_lost 117 = .ok (.lload 7, 2) := by decide +kernel
theorem dX8_lost_119 : decode cX8_lost 119 = .ok (.ldc2_w 57, 3) := by decide +kernel
theorem dX8_lost_122 : decode cX8_lost 122 = .ok (.lmul, 1) := by decide +kernel
theorem dX8_lost_123 : decode cX8_lost 123 = .ok (.lstore 7, 2) := by decide +kernel
theorem dX8_lost_125 : decode cX8_lost 125 = .ok (.iinc 9 1, 3) := by decide +kernel
theorem dX8_lost_128 : decode cX8_lost 128 = .ok (.goto (-68), 3) := by decide +kernel
theorem dX8_lost_131 : decode cX8_lost 131 = .ok (.lconst 0, 1) := by decide +kernel
theorem dX8_lost_132 : decode cX8_lost 132 = .ok (.lstore 9, 2) := by decide +kernel
theorem dX8_lost_134 : decode cX8_lost 134 = .ok (.iconst 0, 1) := by decide +kernel
theorem dX8_lost_135 : decode cX8_lost 135 = .ok (.istore 11, 2) := by decide +kernel
theorem dX8_lost_137 : decode cX8_lost 137 = .ok (.iload 11, 2) := by decide +kernel
theorem dX8_lost_139 : decode cX8_lost 139 = .ok (.iconst 1, 1) := by decide +kernel
theorem dX8_lost_140 : decode cX8_lost 140 = .ok (.iload_n 1, 1) := by decide +kernel
theorem dX8_lost_141 : decode cX8_lost 141 = .ok (.ishl, 1) := by decide +kernel
theorem dX8_lost_142 : decode cX8_lost 142 = .ok (.if_icmp .ge 193, 3) := by decide +kernel
theorem dX8_lost_145 : decode cX8_lost 145 = .ok (.aload_n 0, 1) := by decide +kernel
theorem dX8_lost_146 : decode cX8_lost 146 = .ok (.getfield 7, 3) := by decide +kernel
theorem dX8_lost_149 : decode cX8_lost 149 = .ok (.iconst 0, 1) := by decide +kernel
theorem dX8_lost_150 : decode cX8_lost 150 = .ok (.iaload, 1) := by decide +kernel
theorem dX8_lost_151 : decode cX8_lost 151 = .ok (.istore 12, 2) := by decide +kernel
theorem dX8_lost_153 : decode cX8_lost 153 = .ok (.aload_n 0, 1) := by decide +kernel
theorem dX8_lost_154 : decode cX8_lost 154 = .ok (.getfield 7, 3) := by decide +kernel
theorem dX8_lost_157 : decode cX8_lost 157 = .ok (.iconst 1, 1) := by decide +kernel
theorem dX8_lost_158 : decode cX8_lost 158 = .ok (.iaload, 1) := by decide +kernel
theorem dX8_lost_159 : decode cX8_lost 159 = .ok (.istore 13, 2) := by decide +kernel
theorem dX8_lost_161 : decode cX8_lost 161 = .ok (.aload_n 0, 1) := by decide +kernel
theorem dX8_lost_162 : decode cX8_lost 162 = .ok (.getfield 7, 3) := by decide +kernel
theorem dX8_lost_165 : decode cX8_lost 165 = .ok (.iconst 2, 1) := by decide +kernel
theorem dX8_lost_166 : decode cX8_lost 166 = .ok (.iaload, 1) := by decide +kernel
theorem dX8_lost_167 : decode cX8_lost 167 = .ok (.istore 14, 2) := by decide +kernel
theorem dX8_lost_169 : decode cX8_lost 169 = .ok (.lconst 1, 1) := by decide +kernel
theorem dX8_lost_170 : decode cX8_lost 170 = .ok (.lstore 15, 2) := by decide +kernel
theorem dX8_lost_172 : decode cX8_lost 172 = .ok (.iconst 0, 1) := by decide +kernel
theorem dX8_lost_173 : decode cX8_lost 173 = .ok (.istore 17, 2) := by decide +kernel
theorem dX8_lost_175 : decode cX8_lost 175 = .ok (.iload 17, 2) := by decide +kernel
theorem dX8_lost_177 : decode cX8_lost 177 = .ok (.iload_n 1, 1) := by decide +kernel
theorem dX8_lost_178 : decode cX8_lost 178 = .ok (.if_icmp .ge 120, 3) := by decide +kernel
theorem dX8_lost_181 : decode cX8_lost 181 = .ok (.iload 11, 2) := by decide +kernel
theorem dX8_lost_183 : decode cX8_lost 183 = .ok (.iload 17, 2) := by decide +kernel
theorem dX8_lost_185 : decode cX8_lost 185 = .ok (.ishr, 1) := by decide +kernel
theorem dX8_lost_186 : decode cX8_lost 186 = .ok (.iconst 1, 1) := by decide +kernel
theorem dX8_lost_187 : decode cX8_lost 187 = .ok (.iand, 1) := by decide +kernel
theorem dX8_lost_188 : decode cX8_lost 188 = .ok (.iconst 1, 1) := by decide +kernel
theorem dX8_lost_189 : decode cX8_lost 189 = .ok (.if_icmp .ne 7, 3) := by decide +kernel
theorem dX8_lost_192 : decode cX8_lost 192 = .ok (.iconst 1, 1) := by decide +kernel
theorem dX8_lost_193 : decode cX8_lost 193 = .ok (.goto 4, 3) := by decide +kernel
theorem dX8_lost_196 : decode cX8_lost 196 = .ok (.iconst 0, 1) := by decide +kernel
theorem dX8_lost_197 : decode cX8_lost 197 = .ok (.istore 18, 2) := by decide +kernel
theorem dX8_lost_199 : decode cX8_lost 199 = .ok (.iload 12, 2) := by decide +kernel
theorem dX8_lost_201 : decode cX8_lost 201 = .ok (.iload 18, 2) := by decide +kernel
theorem dX8_lost_203 : decode cX8_lost 203 = .ok (.ifCond .eq 15, 3) := by decide +kernel
theorem dX8_lost_206 : decode cX8_lost 206 = .ok (.aload_n 0, 1) := by decide +kernel
theorem dX8_lost_207 : decode cX8_lost 207 = .ok (.getfield 26, 3) := by decide +kernel
theorem dX8_lost_210 : decode cX8_lost 210 = .ok (.iconst 3, 1) := by decide +kernel
theorem dX8_lost_211 : decode cX8_lost 211 = .ok (.iload 17, 2) := by decide +kernel
theorem dX8_lost_213 : decode cX8_lost 213 = .ok (.imul, 1) := by decide +kernel
theorem dX8_lost_214 : decode cX8_lost 214 = .ok (.iaload, 1) := by decide +kernel
theorem dX8_lost_215 : decode cX8_lost 215 = .ok (.goto 4, 3) := by decide +kernel
theorem dX8_lost_218 : decode cX8_lost 218 = .ok (.iconst 0, 1) := by decide +kernel
theorem dX8_lost_219 : decode cX8_lost 219 = .ok (.iadd, 1) := by decide +kernel
theorem dX8_lost_220 : decode cX8_lost 220 = .ok (.istore 12, 2) := by decide +kernel
theorem dX8_lost_222 : decode cX8_lost 222 = .ok (.iload 13, 2) := by decide +kernel
theorem dX8_lost_224 : decode cX8_lost 224 = .ok (.iload 18, 2) := by decide +kernel
theorem dX8_lost_226 : decode cX8_lost 226 = .ok (.ifCond .eq 17, 3) := by decide +kernel
theorem dX8_lost_229 : decode cX8_lost 229 = .ok (.aload_n 0, 1) := by decide +kernel
theorem dX8_lost_230 : decode cX8_lost 230 = .ok (.getfield 26, 3) := by decide +kernel
theorem dX8_lost_233 : decode cX8_lost 233 = .ok (.iconst 3, 1) := by decide +kernel
theorem dX8_lost_234 : decode cX8_lost 234 = .ok (.iload 17, 2) := by decide +kernel
theorem dX8_lost_236 : decode cX8_lost 236 = .ok (.imul, 1) := by decide +kernel
theorem dX8_lost_237 : decode cX8_lost 237 = .ok (.iconst 1, 1) := by decide +kernel
theorem dX8_lost_238 : decode cX8_lost 238 = .ok (.iadd, 1) := by decide +kernel
theorem dX8_lost_239 : decode cX8_lost 239 = .ok (.iaload, 1) := by decide +kernel
theorem dX8_lost_240 : decode cX8_lost 240 = .ok (.goto 4, 3) := by decide +kernel
theorem dX8_lost_243 : decode cX8_lost 243 = .ok (.iconst 0, 1) := by decide +kernel
theorem dX8_lost_244 : decode cX8_lost 244 = .ok (.iadd, 1) := by decide +kernel
theorem dX8_lost_245 : decode cX8_lost 245 = .ok (.istore 13, 2) := by decide +kernel
theorem dX8_lost_247 : decode cX8_lost 247 = .ok (.iload 14, 2) := by decide +kernel
theorem dX8_lost_249 : decode cX8_lost 249 = .ok (.iload 18, 2) := by decide +kernel
theorem dX8_lost_251 : decode cX8_lost 251 = .ok (.ifCond .eq 17, 3) := by decide +kernel
theorem dX8_lost_254 : decode cX8_lost 254 = .ok (.aload_n 0, 1) := by decide +kernel
theorem dX8_lost_255 : decode cX8_lost 255 = .ok (.getfield 26, 3) := by decide +kernel
theorem dX8_lost_258 : decode cX8_lost 258 = .ok (.iconst 3, 1) := by decide +kernel
theorem dX8_lost_259 : decode cX8_lost 259 = .ok (.iload 17, 2) := by decide +kernel
theorem dX8_lost_261 : decode cX8_lost 261 = .ok (.imul, 1) := by decide +kernel
theorem dX8_lost_262 : decode cX8_lost 262 = .ok (.iconst 2, 1) := by decide +kernel
theorem dX8_lost_263 : decode cX8_lost 263 = .ok (.iadd, 1) := by decide +kernel
theorem dX8_lost_264 : decode cX8_lost 264 = .ok (.iaload, 1) := by decide +kernel
theorem dX8_lost_265 : decode cX8_lost 265 = .ok (.goto 4, 3) := by decide +kernel
theorem dX8_lost_268 : decode cX8_lost 268 = .ok (.iconst 0, 1) := by decide +kernel
theorem dX8_lost_269 : decode cX8_lost 269 = .ok (.iadd, 1) := by decide +kernel
theorem dX8_lost_270 : decode cX8_lost 270 = .ok (.istore 14, 2) := by decide +kernel
theorem dX8_lost_272 : decode cX8_lost 272 = .ok (.lload 15, 2) := by decide +kernel
theorem dX8_lost_274 : decode cX8_lost 274 = .ok (.iload 18, 2) := by decide +kernel
theorem dX8_lost_276 : decode cX8_lost 276 = .ok (.ifCond .eq 11, 3) := by decide +kernel
theorem dX8_lost_279 : decode cX8_lost 279 = .ok (.bipush 10, 2) := by decide +kernel
theorem dX8_lost_281 : decode cX8_lost 281 = .ok (.iload_n 2, 1) := by decide +kernel
theorem dX8_lost_282 : decode cX8_lost 282 = .ok (.isub, 1) := by decide +kernel
theorem dX8_lost_283 : decode cX8_lost 283 = .ok (.i2l, 1) := by decide +kernel
theorem dX8_lost_284 : decode cX8_lost 284 = .ok (.goto 5, 3) := by decide +kernel
theorem dX8_lost_287 : decode cX8_lost 287 = .ok (.iload_n 2, 1) := by decide +kernel
theorem dX8_lost_288 : decode cX8_lost 288 = .ok (.i2l, 1) := by decide +kernel
theorem dX8_lost_289 : decode cX8_lost 289 = .ok (.lmul, 1) := by decide +kernel
theorem dX8_lost_290 : decode cX8_lost 290 = .ok (.lstore 15, 2) := by decide +kernel
theorem dX8_lost_292 : decode cX8_lost 292 = .ok (.iinc 17 1, 3) := by decide +kernel
theorem dX8_lost_295 : decode cX8_lost 295 = .ok (.goto (-120), 3) := by decide +kernel
theorem dX8_lost_298 : decode cX8_lost 298 = .ok (.lload 9, 2) := by decide +kernel
theorem dX8_lost_300 : decode cX8_lost 300 = .ok (.iload 12, 2) := by decide +kernel
theorem dX8_lost_302 : decode cX8_lost 302 = .ok (.iload_n 3, 1) := by decide +kernel
theorem dX8_lost_303 : decode cX8_lost 303 = .ok (.if_icmp .ne 22, 3) := by decide +kernel
theorem dX8_lost_306 : decode cX8_lost 306 = .ok (.iload 13, 2) := by decide +kernel
theorem dX8_lost_308 : decode cX8_lost 308 = .ok (.iload 4, 2) := by decide +kernel
theorem dX8_lost_310 : decode cX8_lost 310 = .ok (.if_icmp .ne 15, 3) := by decide +kernel
theorem dX8_lost_313 : decode cX8_lost 313 = .ok (.iload 14, 2) := by decide +kernel
theorem dX8_lost_315 : decode cX8_lost 315 = .ok (.iload 5, 2) := by decide +kernel
theorem dX8_lost_317 : decode cX8_lost 317 = .ok (.if_icmp .ne 8, 3) := by decide +kernel
theorem dX8_lost_320 : decode cX8_lost 320 = .ok (.lload 15, 2) := by decide +kernel
theorem dX8_lost_322 : decode cX8_lost 322 = .ok (.goto 4, 3) := by decide +kernel
theorem dX8_lost_325 : decode cX8_lost 325 = .ok (.lconst 0, 1) := by decide +kernel
theorem dX8_lost_326 : decode cX8_lost 326 = .ok (.ladd, 1) := by decide +kernel
theorem dX8_lost_327 : decode cX8_lost 327 = .ok (.lstore 9, 2) := by decide +kernel
theorem dX8_lost_329 : decode cX8_lost 329 = .ok (.iinc 11 1, 3) := by decide +kernel
theorem dX8_lost_332 : decode cX8_lost 332 = .ok (.goto (-195), 3) := by decide +kernel
theorem dX8_lost_335 : decode cX8_lost 335 = .ok (.lload 9, 2) := by decide +kernel
theorem dX8_lost_337 : decode cX8_lost 337 = .ok (.lload 7, 2) := by decide +kernel
theorem dX8_lost_339 : decode cX8_lost 339 = .ok (.invokestatic 192, 3) := by decide +kernel
theorem dX8_lost_342 : decode cX8_lost 342 = .ok (.lstore 11, 2) := by decide +kernel
theorem dX8_lost_344 : decode cX8_lost 344 = .ok (.iload 6, 2) := by decide +kernel
theorem dX8_lost_346 : decode cX8_lost 346 = .ok (.ifCond .ne 11, 3) := by decide +kernel
theorem dX8_lost_349 : decode cX8_lost 349 = .ok (.lload 9, 2) := by decide +kernel
theorem dX8_lost_351 : decode cX8_lost 351 = .ok (.lload 11, 2) := by decide +kernel
theorem dX8_lost_353 : decode cX8_lost 353 = .ok (.ldiv, 1) := by decide +kernel
theorem dX8_lost_354 : decode cX8_lost 354 = .ok (.goto 8, 3) := by decide +kernel
theorem dX8_lost_357 : decode cX8_lost 357 = .ok (.lload 7, 2) := by decide +kernel
theorem dX8_lost_359 : decode cX8_lost 359 = .ok (.lload 11, 2) := by decide +kernel
theorem dX8_lost_361 : decode cX8_lost 361 = .ok (.ldiv, 1) := by decide +kernel
theorem dX8_lost_362 : decode cX8_lost 362 = .ok (.l2i, 1) := by decide +kernel
theorem dX8_lost_363 : decode cX8_lost 363 = .ok (.ireturn, 1) := by decide +kernel
theorem dX8_image_0 : decode cX8_image 0 = .ok (.aload_n 0, 1) := by decide +kernel
theorem dX8_image_1 : decode cX8_image 1 = .ok (.iconst 0, 1) := by decide +kernel
theorem dX8_image_2 : decode cX8_image 2 = .ok (.sipush 488, 3) := by decide +kernel
theorem dX8_image_5 : decode cX8_image 5 = .ok (.invokevirtual 45, 3) := by decide +kernel
theorem dX8_image_8 : decode cX8_image 8 = .ok (.iconst 0, 1) := by decide +kernel
theorem dX8_image_9 : decode cX8_image 9 = .ok (.istore_n 1, 1) := by decide +kernel
theorem dX8_image_10 : decode cX8_image 10 = .ok (.iload_n 1, 1) := by decide +kernel
theorem dX8_image_11 : decode cX8_image 11 = .ok (.sipush 366, 3) := by decide +kernel
theorem dX8_image_14 : decode cX8_image 14 = .ok (.if_icmp .ge 28, 3) := by decide +kernel
theorem dX8_image_17 : decode cX8_image 17 = .ok (.aload_n 0, 1) := by decide +kernel
theorem dX8_image_18 : decode cX8_image 18 = .ok (.getfield 7, 3) := by decide +kernel
theorem dX8_image_21 : decode cX8_image 21 = .ok (.sipush 549, 3) := by decide +kernel
theorem dX8_image_24 : decode cX8_image 24 = .ok (.iload_n 1, 1) := by decide +kernel
theorem dX8_image_25 : decode cX8_image 25 = .ok (.iadd, 1) := by decide +kernel
theorem dX8_image_26 : decode cX8_image 26 = .ok (.aload_n 0, 1) := by decide +kernel
theorem dX8_image_27 : decode cX8_image 27 = .ok (.getfield 7, 3) := by decide +kernel
theorem dX8_image_30 : decode cX8_image 30 = .ok (.bipush 122, 2) := by decide +kernel
theorem dX8_image_32 : decode cX8_image 32 = .ok (.iload_n 1, 1) := by decide +kernel
theorem dX8_image_33 : decode cX8_image 33 = .ok (.iadd, 1) := by decide +kernel
theorem dX8_image_34 : decode cX8_image 34 = .ok (.iaload, 1) := by decide +kernel
theorem dX8_image_35 : decode cX8_image 35 = .ok (.iastore, 1) := by decide +kernel
theorem dX8_image_36 : decode cX8_image 36 = .ok (.iinc 1 1, 3) := by decide +kernel
theorem dX8_image_39 : decode cX8_image 39 = .ok (.goto (-29), 3) := by decide +kernel
theorem dX8_image_42 : decode cX8_image 42 = .ok (.aload_n 0, 1) := by decide +kernel
theorem dX8_image_43 : decode cX8_image 43 = .ok (.aload_n 0, 1) := by decide +kernel
theorem dX8_image_44 : decode cX8_image 44 = .ok (.getfield 42, 3) := by decide +kernel
theorem dX8_image_47 : decode cX8_image 47 = .ok (.putfield 13, 3) := by decide +kernel
theorem dX8_image_50 : decode cX8_image 50 = .ok (.iconst 1, 1) := by decide +kernel
theorem dX8_image_51 : decode cX8_image 51 = .ok (.ireturn, 1) := by decide +kernel
theorem dX8_restore_0 : decode cX8_restore 0 = .ok (.aload_n 0, 1) := by decide +kernel
theorem dX8_restore_1 : decode cX8_restore 1 = .ok (.getfield 13, 3) := by decide +kernel
theorem dX8_restore_4 : decode cX8_restore 4 = .ok (.ifCond .ge 6, 3) := by decide +kernel
theorem dX8_restore_7 : decode cX8_restore 7 = .ok (.ldc 115, 2) := by decide +kernel
theorem dX8_restore_9 : decode cX8_restore 9 = .ok (.ireturn, 1) := by decide +kernel
theorem dX8_restore_10 : decode cX8_restore 10 = .ok (.aload_n 0, 1) := by decide +kernel
theorem dX8_restore_11 : decode cX8_restore 11 = .ok (.sipush 488, 3) := by decide +kernel
theorem dX8_restore_14 : decode cX8_restore 14 = .ok (.iconst 0, 1) := by decide +kernel
theorem dX8_restore_15 : decode cX8_restore 15 = .ok (.invokevirtual 45, 3) := by decide +kernel
theorem dX8_restore_18 : decode cX8_restore 18 = .ok (.iconst 0, 1) := by decide +kernel
theorem dX8_restore_19 : decode cX8_restore 19 = .ok (.istore_n 1, 1) := by decide +kernel
theorem dX8_restore_20 : decode cX8_restore 20 = .ok (.iload_n 1, 1) := by decide +kernel
theorem dX8_restore_21 : decode cX8_restore 21 = .ok (.sipush 366, 3) := by decide +kernel
theorem dX8_restore_24 : decode cX8_restore 24 = .ok (.if_icmp .ge 28, 3) := by decide +kernel
theorem dX8_restore_27 : decode cX8_restore 27 = .ok (.aload_n 0, 1) := by decide +kernel
theorem dX8_restore_28 : decode cX8_restore 28 = .ok (.getfield 7, 3) := by decide +kernel
theorem dX8_restore_31 : decode cX8_restore 31 = .ok (.bipush 122, 2) := by decide +kernel
theorem dX8_restore_33 : decode cX8_restore 33 = .ok (.iload_n 1, 1) := by decide +kernel
theorem dX8_restore_34 : decode cX8_restore 34 = .ok (.iadd, 1) := by decide +kernel
theorem dX8_restore_35 : decode cX8_restore 35 = .ok (.aload_n 0, 1) := by decide +kernel
theorem dX8_restore_36 : decode cX8_restore 36 = .ok (.getfield 7, 3) := by decide +kernel
theorem dX8_restore_39 : decode cX8_restore 39 = .ok (.sipush 549, 3) := by decide +kernel
theorem dX8_restore_42 : decode cX8_restore 42 = .ok (.iload_n 1, 1) := by decide +kernel
theorem dX8_restore_43 : decode cX8_restore 43 = .ok (.iadd, 1) := by decide +kernel
theorem dX8_restore_44 : decode cX8_restore 44 = .ok (.iaload, 1) := by decide +kernel
theorem dX8_restore_45 : decode cX8_restore 45 = .ok (.iastore, 1) := by decide +kernel
theorem dX8_restore_46 : decode cX8_restore 46 = .ok (.iinc 1 1, 3) := by decide +kernel
theorem dX8_restore_49 : decode cX8_restore 49 = .ok (.goto (-29), 3) := by decide +kernel
theorem dX8_restore_52 : decode cX8_restore 52 = .ok (.aload_n 0, 1) := by decide +kernel
theorem dX8_restore_53 : decode cX8_restore 53 = .ok (.aload_n 0, 1) := by decide +kernel
theorem dX8_restore_54 : decode cX8_restore 54 = .ok (.getfield 13, 3) := by decide +kernel
theorem dX8_restore_57 : decode cX8_restore 57 = .ok (.putfield 42, 3) := by decide +kernel
theorem dX8_restore_60 : decode cX8_restore 60 = .ok (.iconst 1, 1) := by decide +kernel
theorem dX8_restore_61 : decode cX8_restore 61 = .ok (.ireturn, 1) := by decide +kernel
theorem dX8_isSheet_0 : decode cX8_isSheet 0 = .ok (.iload_n 0, 1) := by decide +kernel
theorem dX8_isSheet_1 : decode cX8_isSheet 1 = .ok (.i2l, 1) := by decide +kernel
theorem dX8_isSheet_2 : decode cX8_isSheet 2 = .ok (.lconst 0, 1) := by decide +kernel
theorem dX8_isSheet_3 : decode cX8_isSheet 3 = .ok (.ldc2_w 198, 3) := by decide +kernel
theorem dX8_isSheet_6 : decode cX8_isSheet 6 = .ok (.invokestatic 51, 3) := by decide +kernel
theorem dX8_isSheet_9 : decode cX8_isSheet 9 = .ok (.ireturn, 1) := by decide +kernel
theorem dX8_isLane_0 : decode cX8_isLane 0 = .ok (.iload_n 0, 1) := by decide +kernel
theorem dX8_isLane_1 : decode cX8_isLane 1 = .ok (.i2l, 1) := by decide +kernel
theorem dX8_isLane_2 : decode cX8_isLane 2 = .ok (.lconst 0, 1) := by decide +kernel
theorem dX8_isLane_3 : decode cX8_isLane 3 = .ok (.ldc2_w 198, 3) := by decide +kernel
theorem dX8_isLane_6 : decode cX8_isLane 6 = .ok (.invokestatic 51, 3) := by decide +kernel
theorem dX8_isLane_9 : decode cX8_isLane 9 = .ok (.ireturn, 1) := by decide +kernel
theorem dX8_low_0 : decode cX8_low 0 = .ok (.iload_n 0, 1) := by decide +kernel
theorem dX8_low_1 : decode cX8_low 1 = .ok (.ifCond .ne 10, 3) := by decide +kernel
theorem dX8_low_4 : decode cX8_low 4 = .ok (.lload_n 1, 1) := by decide +kernel
theorem dX8_low_5 : decode cX8_low 5 = .ok (.l2i, 1) := by decide +kernel
theorem dX8_low_6 : decode cX8_low 6 = .ok (.i2b, 1) := by decide +kernel
theorem dX8_low_7 : decode cX8_low 7 = .ok (.i2l, 1) := by decide +kernel
theorem dX8_low_8 : decode cX8_low 8 = .ok (.goto 27, 3) := by decide +kernel
theorem dX8_low_11 : decode cX8_low 11 = .ok (.iload_n 0, 1) := by decide +kernel
theorem dX8_low_12 : decode cX8_low 12 = .ok (.iconst 1, 1) := by decide +kernel
theorem dX8_low_13 : decode cX8_low 13 = .ok (.if_icmp .ne 10, 3) := by decide +kernel
theorem dX8_low_16 : decode cX8_low 16 = .ok (.lload_n 1, 1) := by decide +kernel
theorem dX8_low_17 : decode cX8_low 17 = .ok (.l2i, 1) := by decide +kernel
theorem dX8_low_18 : decode cX8_low 18 = .ok (.i2s, 1) := by decide +kernel
theorem dX8_low_19 : decode cX8_low 19 = .ok (.i2l, 1) := by decide +kernel
theorem dX8_low_20 : decode cX8_low 20 = .ok (.goto 15, 3) := by decide +kernel
