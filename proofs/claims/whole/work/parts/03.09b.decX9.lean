theorem dX9_foldings_87 : decode cX9_foldings 87 = .ok (.aload_n 0, 1) := by decide +kernel
theorem dX9_foldings_88 : decode cX9_foldings 88 = .ok (.getfield 26, 3) := by decide +kernel
theorem dX9_foldings_91 : decode cX9_foldings 91 = .ok (.getfield 98, 3) := by decide +kernel
theorem dX9_foldings_94 : decode cX9_foldings 94 = .ok (.invokevirtual 292, 3) := by decide +kernel
theorem dX9_foldings_97 : decode cX9_foldings 97 = .ok (.ifCond .ne 6, 3) := by decide +kernel
theorem dX9_foldings_100 : decode cX9_foldings 100 = .ok (.bipush (-2), 2) := by decide +kernel
theorem dX9_foldings_102 : decode cX9_foldings 102 = .ok (.ireturn, 1) := by decide +kernel
theorem dX9_foldings_103 : decode cX9_foldings 103 = .ok (.iload 5, 2) := by decide +kernel
theorem dX9_foldings_105 : decode cX9_foldings 105 = .ok (.iconst 1, 1) := by decide +kernel
theorem dX9_foldings_106 : decode cX9_foldings 106 = .ok (.if_icmp .ne 23, 3) := by decide +kernel
theorem dX9_foldings_109 : decode cX9_foldings 109 = .ok (.aload_n 0, 1) := by decide +kernel
theorem dX9_foldings_110 : decode cX9_foldings 110 = .ok (.getfield 64, 3) := by decide +kernel
theorem dX9_foldings_113 : decode cX9_foldings 113 = .ok (.aload_n 0, 1) := by decide +kernel
theorem dX9_foldings_114 : decode cX9_foldings 114 = .ok (.getfield 26, 3) := by decide +kernel
theorem dX9_foldings_117 : decode cX9_foldings 117 = .ok (.invokevirtual 296, 3) := by decide +kernel
theorem dX9_foldings_120 : decode cX9_foldings 120 = .ok (.ifCond .eq 7, 3) := by decide +kernel
theorem dX9_foldings_123 : decode cX9_foldings 123 = .ok (.iconst 1, 1) := by decide +kernel
theorem dX9_foldings_124 : decode cX9_foldings 124 = .ok (.goto 4, 3) := by decide +kernel
theorem dX9_foldings_127 : decode cX9_foldings 127 = .ok (.iconst 0, 1) := by decide +kernel
theorem dX9_foldings_128 : decode cX9_foldings 128 = .ok (.ireturn, 1) := by decide +kernel
theorem dX9_foldings_129 : decode cX9_foldings 129 = .ok (.aload_n 0, 1) := by decide +kernel
theorem dX9_foldings_130 : decode cX9_foldings 130 = .ok (.getfield 64, 3) := by decide +kernel
theorem dX9_foldings_133 : decode cX9_foldings 133 = .ok (.aload_n 0, 1) := by decide +kernel
theorem dX9_foldings_134 : decode cX9_foldings 134 = .ok (.getfield 26, 3) := by decide +kernel
theorem dX9_foldings_137 : decode cX9_foldings 137 = .ok (.getfield 98, 3) := by decide +kernel
theorem dX9_foldings_140 : decode cX9_foldings 140 = .ok (.invokevirtual 299, 3) := by decide +kernel
theorem dX9_foldings_143 : decode cX9_foldings 143 = .ok (.iload 5, 2) := by decide +kernel
theorem dX9_foldings_145 : decode cX9_foldings 145 = .ok (.ifCond .ne 13, 3) := by decide +kernel
theorem dX9_foldings_148 : decode cX9_foldings 148 = .ok (.aload_n 0, 1) := by decide +kernel
theorem dX9_foldings_149 : decode cX9_foldings 149 = .ok (.getfield 64, 3) := by decide +kernel
theorem dX9_foldings_152 : decode cX9_foldings 152 = .ok (.getfield 302, 3) := by decide +kernel
theorem dX9_foldings_155 : decode cX9_foldings 155 = .ok (.goto 10, 3) := by decide +kernel
theorem dX9_foldings_158 : decode cX9_foldings 158 = .ok (.aload_n 0, 1) := by decide +kernel
theorem dX9_foldings_159 : decode cX9_foldings 159 = .ok (.getfield 64, 3) := by decide +kernel
theorem dX9_foldings_162 : decode cX9_foldings 162 = .ok (.invokevirtual 305, 3) := by decide +kernel
theorem dX9_foldings_165 : decode cX9_foldings 165 = .ok (.ireturn, 1) := by decide +kernel
theorem dX9_kinds_0 : decode cX9_kinds 0 = .ok (.iload_n 1, 1) := by decide +kernel
theorem dX9_kinds_1 : decode cX9_kinds 1 = .ok (.invokestatic 246, 3) := by decide +kernel
theorem dX9_kinds_4 : decode cX9_kinds 4 = .ok (.ifCond .eq 31, 3) := by decide +kernel
theorem dX9_kinds_7 : decode cX9_kinds 7 = .ok (.iload_n 2, 1) := by decide +kernel
theorem dX9_kinds_8 : decode cX9_kinds 8 = .ok (.invokestatic 249, 3) := by decide +kernel
theorem dX9_kinds_11 : decode cX9_kinds 11 = .ok (.ifCond .eq 24, 3) := by decide +kernel
theorem dX9_kinds_14 : decode cX9_kinds 14 = .ok (.iload 4, 2) := by decide +kernel
theorem dX9_kinds_16 : decode cX9_kinds 16 = .ok (.iconst 1, 1) := by decide +kernel
theorem dX9_kinds_17 : decode cX9_kinds 17 = .ok (.bipush 10, 2) := by decide +kernel
theorem dX9_kinds_19 : decode cX9_kinds 19 = .ok (.invokestatic 69, 3) := by decide +kernel
theorem dX9_kinds_22 : decode cX9_kinds 22 = .ok (.ifCond .eq 13, 3) := by decide +kernel
theorem dX9_kinds_25 : decode cX9_kinds 25 = .ok (.iload 5, 2) := by decide +kernel
theorem dX9_kinds_27 : decode cX9_kinds 27 = .ok (.iconst 0, 1) := by decide +kernel
theorem dX9_kinds_28 : decode cX9_kinds 28 = .ok (.iconst 1, 1) := by decide +kernel
theorem dX9_kinds_29 : decode cX9_kinds 29 = .ok (.invokestatic 69, 3) := by decide +kernel
theorem dX9_kinds_32 : decode cX9_kinds 32 = .ok (.ifCond .ne 5, 3) := by decide +kernel
theorem dX9_kinds_35 : decode cX9_kinds 35 = .ok (.iconst (-1), 1) := by decide +kernel
theorem dX9_kinds_36 : decode cX9_kinds 36 = .ok (.ireturn, 1) := by decide +kernel
theorem dX9_kinds_37 : decode cX9_kinds 37 = .ok (.aload_n 0, 1) := by decide +kernel
theorem dX9_kinds_38 : decode cX9_kinds 38 = .ok (.getfield 43, 3) := by decide +kernel
theorem dX9_kinds_41 : decode cX9_kinds 41 = .ok (.iload_n 1, 1) := by decide +kernel
theorem dX9_kinds_42 : decode cX9_kinds 42 = .ok (.aaload, 1) := by decide +kernel
theorem dX9_kinds_43 : decode cX9_kinds 43 = .ok (.iload_n 2, 1) := by decide +kernel
theorem dX9_kinds_44 : decode cX9_kinds 44 = .ok (.iload_n 3, 1) := by decide +kernel
theorem dX9_kinds_45 : decode cX9_kinds 45 = .ok (.iconst 2, 1) := by decide +kernel
theorem dX9_kinds_46 : decode cX9_kinds 46 = .ok (.iload 4, 2) := by decide +kernel
theorem dX9_kinds_48 : decode cX9_kinds 48 = .ok (.imul, 1) := by decide +kernel
theorem dX9_kinds_49 : decode cX9_kinds 49 = .ok (.invokevirtual 265, 3) := by decide +kernel
theorem dX9_kinds_52 : decode cX9_kinds 52 = .ok (.istore 6, 2) := by decide +kernel
theorem dX9_kinds_54 : decode cX9_kinds 54 = .ok (.iload 6, 2) := by decide +kernel
theorem dX9_kinds_56 : decode cX9_kinds 56 = .ok (.ifCond .eq 6, 3) := by decide +kernel
theorem dX9_kinds_59 : decode cX9_kinds 59 = .ok (.iload 6, 2) := by decide +kernel
theorem dX9_kinds_61 : decode cX9_kinds 61 = .ok (.ireturn, 1) := by decide +kernel
theorem dX9_kinds_62 : decode cX9_kinds 62 = .ok (.aload_n 0, 1) := by decide +kernel
theorem dX9_kinds_63 : decode cX9_kinds 63 = .ok (.getfield 43, 3) := by decide +kernel
theorem dX9_kinds_66 : decode cX9_kinds 66 = .ok (.iload_n 1, 1) := by decide +kernel
theorem dX9_kinds_67 : decode cX9_kinds 67 = .ok (.aaload, 1) := by decide +kernel
theorem dX9_kinds_68 : decode cX9_kinds 68 = .ok (.iload_n 3, 1) := by decide +kernel
theorem dX9_kinds_69 : decode cX9_kinds 69 = .ok (.iload 4, 2) := by decide +kernel
theorem dX9_kinds_71 : decode cX9_kinds 71 = .ok (.invokestatic 308, 3) := by decide +kernel
theorem dX9_kinds_74 : decode cX9_kinds 74 = .ok (.istore 7, 2) := by decide +kernel
theorem dX9_kinds_76 : decode cX9_kinds 76 = .ok (.iload 5, 2) := by decide +kernel
theorem dX9_kinds_78 : decode cX9_kinds 78 = .ok (.ifCond .eq 10, 3) := by decide +kernel
theorem dX9_kinds_81 : decode cX9_kinds 81 = .ok (.iload 7, 2) := by decide +kernel
theorem dX9_kinds_83 : decode cX9_kinds 83 = .ok (.bipush (-2), 2) := by decide +kernel
theorem dX9_kinds_85 : decode cX9_kinds 85 = .ok (.if_icmp .ne 8, 3) := by decide +kernel
theorem dX9_kinds_88 : decode cX9_kinds 88 = .ok (.iload 7, 2) := by decide +kernel
theorem dX9_kinds_90 : decode cX9_kinds 90 = .ok (.goto 8, 3) := by decide +kernel
theorem dX9_kinds_93 : decode cX9_kinds 93 = .ok (.iload 7, 2) := by decide +kernel
theorem dX9_kinds_95 : decode cX9_kinds 95 = .ok (.invokestatic 312, 3) := by decide +kernel
theorem dX9_kinds_98 : decode cX9_kinds 98 = .ok (.ireturn, 1) := by decide +kernel
theorem dX9_count_0 : decode cX9_count 0 = .ok (.iload_n 1, 1) := by decide +kernel
theorem dX9_count_1 : decode cX9_count 1 = .ok (.tableswitch 153 0 8 #[51, 59, 82, 105, 113, 121, 129, 137, 145], 51) := by decide +kernel
theorem dX9_count_52 : decode cX9_count 52 = .ok (.aload_n 0, 1) := by decide +kernel
theorem dX9_count_53 : decode cX9_count 53 = .ok (.getfield 26, 3) := by decide +kernel
theorem dX9_count_56 : decode cX9_count 56 = .ok (.getfield 98, 3) := by decide +kernel
theorem dX9_count_59 : decode cX9_count 59 = .ok (.ireturn, 1) := by decide +kernel
theorem dX9_count_60 : decode cX9_count 60 = .ok (.aload_n 0, 1) := by decide +kernel
theorem dX9_count_61 : decode cX9_count 61 = .ok (.getfield 26, 3) := by decide +kernel
theorem dX9_count_64 : decode cX9_count 64 = .ok (.invokevirtual 139, 3) := by decide +kernel
theorem dX9_count_67 : decode cX9_count 67 = .ok (.ifCond .eq 8, 3) := by decide +kernel
theorem dX9_count_70 : decode cX9_count 70 = .ok (.bipush (-4), 2) := by decide +kernel
theorem dX9_count_72 : decode cX9_count 72 = .ok (.goto 10, 3) := by decide +kernel
theorem dX9_count_75 : decode cX9_count 75 = .ok (.aload_n 0, 1) := by decide +kernel
theorem dX9_count_76 : decode cX9_count 76 = .ok (.getfield 26, 3) := by decide +kernel
theorem dX9_count_79 : decode cX9_count 79 = .ok (.getfield 143, 3) := by decide +kernel
theorem dX9_count_82 : decode cX9_count 82 = .ok (.ireturn, 1) := by decide +kernel
theorem dX9_count_83 : decode cX9_count 83 = .ok (.aload_n 0, 1) := by decide +kernel
theorem dX9_count_84 : decode cX9_count 84 = .ok (.getfield 26, 3) := by decide +kernel
theorem dX9_count_87 : decode cX9_count 87 = .ok (.invokevirtual 139, 3) := by decide +kernel
theorem dX9_count_90 : decode cX9_count 90 = .ok (.ifCond .eq 8, 3) := by decide +kernel
theorem dX9_count_93 : decode cX9_count 93 = .ok (.bipush (-4), 2) := by decide +kernel
theorem dX9_count_95 : decode cX9_count 95 = .ok (.goto 10, 3) := by decide +kernel
theorem dX9_count_98 : decode cX9_count 98 = .ok (.aload_n 0, 1) := by decide +kernel
theorem dX9_count_99 : decode cX9_count 99 = .ok (.getfield 26, 3) := by decide +kernel
theorem dX9_count_102 : decode cX9_count 102 = .ok (.getfield 146, 3) := by decide +kernel
theorem dX9_count_105 : decode cX9_count 105 = .ok (.ireturn, 1) := by decide +kernel
theorem dX9_count_106 : decode cX9_count 106 = .ok (.aload_n 0, 1) := by decide +kernel
theorem dX9_count_107 : decode cX9_count 107 = .ok (.getfield 26, 3) := by decide +kernel
theorem dX9_count_110 : decode cX9_count 110 = .ok (.getfield 243, 3) := by decide +kernel
theorem dX9_count_113 : decode cX9_count 113 = .ok (.ireturn, 1) := by decide +kernel
theorem dX9_count_114 : decode cX9_count 114 = .ok (.aload_n 0, 1) := by decide +kernel
theorem dX9_count_115 : decode cX9_count 115 = .ok (.getfield 26, 3) := by decide +kernel
theorem dX9_count_118 : decode cX9_count 118 = .ok (.invokevirtual 314, 3) := by decide +kernel
theorem dX9_count_121 : decode cX9_count 121 = .ok (.ireturn, 1) := by decide +kernel
theorem dX9_count_122 : decode cX9_count 122 = .ok (.aload_n 0, 1) := by decide +kernel
theorem dX9_count_123 : decode cX9_count 123 = .ok (.getfield 26, 3) := by decide +kernel
theorem dX9_count_126 : decode cX9_count 126 = .ok (.invokevirtual 317, 3) := by decide +kernel
theorem dX9_count_129 : decode cX9_count 129 = .ok (.ireturn, 1) := by decide +kernel
theorem dX9_count_130 : decode cX9_count 130 = .ok (.aload_n 0, 1) := by decide +kernel
theorem dX9_count_131 : decode cX9_count 131 = .ok (.getfield 26, 3) := by decide +kernel
theorem dX9_count_134 : decode cX9_count 134 = .ok (.invokevirtual 320, 3) := by decide +kernel
theorem dX9_count_137 : decode cX9_count 137 = .ok (.ireturn, 1) := by decide +kernel
theorem dX9_count_138 : decode cX9_count 138 = .ok (.aload_n 0, 1) := by decide +kernel
theorem dX9_count_139 : decode cX9_count 139 = .ok (.getfield 33, 3) := by decide +kernel
theorem dX9_count_142 : decode cX9_count 142 = .ok (.getfield 192, 3) := by decide +kernel
theorem dX9_count_145 : decode cX9_count 145 = .ok (.ireturn, 1) := by decide +kernel
theorem dX9_count_146 : decode cX9_count 146 = .ok (.aload_n 0, 1) := by decide +kernel
theorem dX9_count_147 : decode cX9_count 147 = .ok (.getfield 10, 3) := by decide +kernel
theorem dX9_count_150 : decode cX9_count 150 = .ok (.getfield 323, 3) := by decide +kernel
theorem dX9_count_153 : decode cX9_count 153 = .ok (.ireturn, 1) := by decide +kernel
theorem dX9_count_154 : decode cX9_count 154 = .ok (.iconst (-1), 1) := by decide +kernel
theorem dX9_count_155 : decode cX9_count 155 = .ok (.ireturn, 1) := by decide +kernel
theorem dX9_isWithin_0 : decode cX9_isWithin 0 = .ok (.iload_n 0, 1) := by decide +kernel
theorem dX9_isWithin_1 : decode cX9_isWithin 1 = .ok (.iload_n 1, 1) := by decide +kernel
theorem dX9_isWithin_2 : decode cX9_isWithin 2 = .ok (.if_icmp .lt 12, 3) := by decide +kernel
theorem dX9_isWithin_5 : decode cX9_isWithin 5 = .ok (.iload_n 0, 1) := by decide +kernel
theorem dX9_isWithin_6 : decode cX9_isWithin 6 = .ok (.iload_n 2, 1) := by decide +kernel
theorem dX9_isWithin_7 : decode cX9_isWithin 7 = .ok (.if_icmp .gt 7, 3) := by decide +kernel
theorem dX9_isWithin_10 : decode cX9_isWithin 10 = .ok (.iconst 1, 1) := by decide +kernel
theorem dX9_isWithin_11 : decode cX9_isWithin 11 = .ok (.goto 4, 3) := by decide +kernel
theorem dX9_isWithin_14 : decode cX9_isWithin 14 = .ok (.iconst 0, 1) := by decide +kernel
theorem dX9_isWithin_15 : decode cX9_isWithin 15 = .ok (.ireturn, 1) := by decide +kernel
theorem dX9_isSide_0 : decode cX9_isSide 0 = .ok (.iload_n 0, 1) := by decide +kernel
theorem dX9_isSide_1 : decode cX9_isSide 1 = .ok (.ifCond .eq 8, 3) := by decide +kernel
theorem dX9_isSide_4 : decode cX9_isSide 4 = .ok (.iload_n 0, 1) := by decide +kernel
theorem dX9_isSide_5 : decode cX9_isSide 5 = .ok (.iconst 1, 1) := by decide +kernel
theorem dX9_isSide_6 : decode cX9_isSide 6 = .ok (.if_icmp .ne 7, 3) := by decide +kernel
theorem dX9_isSide_9 : decode cX9_isSide 9 = .ok (.iconst 1, 1) := by decide +kernel
theorem dX9_isSide_10 : decode cX9_isSide 10 = .ok (.goto 4, 3) := by decide +kernel
theorem dX9_isSide_13 : decode cX9_isSide 13 = .ok (.iconst 0, 1) := by decide +kernel
theorem dX9_isSide_14 : decode cX9_isSide 14 = .ok (.ireturn, 1) := by decide +kernel
theorem dX9_isSheet_0 : decode cX9_isSheet 0 = .ok (.iload_n 0, 1) := by decide +kernel
theorem dX9_isSheet_1 : decode cX9_isSheet 1 = .ok (.iconst 0, 1) := by decide +kernel
theorem dX9_isSheet_2 : decode cX9_isSheet 2 = .ok (.iconst 3, 1) := by decide +kernel
theorem dX9_isSheet_3 : decode cX9_isSheet 3 = .ok (.invokestatic 69, 3) := by decide +kernel
theorem dX9_isSheet_6 : decode cX9_isSheet 6 = .ok (.ireturn, 1) := by decide +kernel
theorem dX9_isLane_0 : decode cX9_isLane 0 = .ok (.iload_n 0, 1) := by decide +kernel
theorem dX9_isLane_1 : decode cX9_isLane 1 = .ok (.iconst 0, 1) := by decide +kernel
theorem dX9_isLane_2 : decode cX9_isLane 2 = .ok (.iconst 3, 1) := by decide +kernel
theorem dX9_isLane_3 : decode cX9_isLane 3 = .ok (.invokestatic 69, 3) := by decide +kernel
theorem dX9_isLane_6 : decode cX9_isLane 6 = .ok (.ireturn, 1) := by decide +kernel
theorem dX9_greatestDivisor_0 : decode cX9_greatestDivisor 0 = .ok (.iload_n 0, 1) := by decide +kernel
theorem dX9_greatestDivisor_1 : decode cX9_greatestDivisor 1 = .ok (.istore_n 2, 1) := by decide +kernel
theorem dX9_greatestDivisor_2 : decode cX9_greatestDivisor 2 = .ok (.iload_n 1, 1) := by decide +kernel
theorem dX9_greatestDivisor_3 : decode cX9_greatestDivisor 3 = .ok (.istore_n 3, 1) := by decide +kernel
theorem dX9_greatestDivisor_4 : decode cX9_greatestDivisor 4 = .ok (.iconst 0, 1) := by decide +kernel
theorem dX9_greatestDivisor_5 : decode cX9_greatestDivisor 5 = .ok (.istore 4, 2) := by decide +kernel
theorem dX9_greatestDivisor_7 : decode cX9_greatestDivisor 7 = .ok (.iload 4, 2) := by decide +kernel
theorem dX9_greatestDivisor_9 : decode cX9_greatestDivisor 9 = .ok (.bipush 64, 2) := by decide +kernel
theorem dX9_greatestDivisor_11 : decode cX9_greatestDivisor 11 = .ok (.if_icmp .ge 23, 3) := by decide +kernel
theorem dX9_greatestDivisor_14 : decode cX9_greatestDivisor 14 = .ok (.iload_n 3, 1) := by decide +kernel
theorem dX9_greatestDivisor_15 : decode cX9_greatestDivisor 15 = .ok (.ifCond .eq 19, 3) := by decide +kernel
theorem dX9_greatestDivisor_18 : decode cX9_greatestDivisor 18 = .ok (.iload_n 2, 1) := by decide +kernel
theorem dX9_greatestDivisor_19 : decode cX9_greatestDivisor 19 = .ok (.iload_n 3, 1) := by decide +kernel
theorem dX9_greatestDivisor_20 : decode cX9_greatestDivisor 20 = .ok (.irem, 1) := by decide +kernel
theorem dX9_greatestDivisor_21 : decode cX9_greatestDivisor 21 = .ok (.istore 5, 2) := by decide +kernel
theorem dX9_greatestDivisor_23 : decode cX9_greatestDivisor 23 = .ok (.iload_n 3, 1) := by decide +kernel
theorem dX9_greatestDivisor_24 : decode cX9_greatestDivisor 24 = .ok (.istore_n 2, 1) := by decide +kernel
theorem dX9_greatestDivisor_25 : decode cX9_greatestDivisor 25 = .ok (.iload 5, 2) := by decide +kernel
theorem dX9_greatestDivisor_27 : decode cX9_greatestDivisor 27 = .ok (.istore_n 3, 1) := by decide +kernel
theorem dX9_greatestDivisor_28 : decode cX9_greatestDivisor 28 = .ok (.iinc 4 1, 3) := by decide +kernel
theorem dX9_greatestDivisor_31 : decode cX9_greatestDivisor 31 = .ok (.goto (-24), 3) := by decide +kernel
theorem dX9_greatestDivisor_34 : decode cX9_greatestDivisor 34 = .ok (.iload_n 2, 1) := by decide +kernel
theorem dX9_greatestDivisor_35 : decode cX9_greatestDivisor 35 = .ok (.ireturn, 1) := by decide +kernel
