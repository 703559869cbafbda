theorem dX10_copy_64 : decode cX10_copy 64 = .ok (.iload 4, 2) := by decide +kernel
theorem dX10_copy_66 : decode cX10_copy 66 = .ok (.ifCond .lt 38, 3) := by decide +kernel
theorem dX10_copy_69 : decode cX10_copy 69 = .ok (.iload_n 2, 1) := by decide +kernel
theorem dX10_copy_70 : decode cX10_copy 70 = .ok (.i2l, 1) := by decide +kernel
theorem dX10_copy_71 : decode cX10_copy 71 = .ok (.iload 5, 2) := by decide +kernel
theorem dX10_copy_73 : decode cX10_copy 73 = .ok (.i2l, 1) := by decide +kernel
theorem dX10_copy_74 : decode cX10_copy 74 = .ok (.ladd, 1) := by decide +kernel
theorem dX10_copy_75 : decode cX10_copy 75 = .ok (.aload_n 0, 1) := by decide +kernel
theorem dX10_copy_76 : decode cX10_copy 76 = .ok (.getfield 47, 3) := by decide +kernel
theorem dX10_copy_79 : decode cX10_copy 79 = .ok (.iload_n 1, 1) := by decide +kernel
theorem dX10_copy_80 : decode cX10_copy 80 = .ok (.iaload, 1) := by decide +kernel
theorem dX10_copy_81 : decode cX10_copy 81 = .ok (.i2l, 1) := by decide +kernel
theorem dX10_copy_82 : decode cX10_copy 82 = .ok (.lcmp, 1) := by decide +kernel
theorem dX10_copy_83 : decode cX10_copy 83 = .ok (.ifCond .gt 21, 3) := by decide +kernel
theorem dX10_copy_86 : decode cX10_copy 86 = .ok (.iload 4, 2) := by decide +kernel
theorem dX10_copy_88 : decode cX10_copy 88 = .ok (.i2l, 1) := by decide +kernel
theorem dX10_copy_89 : decode cX10_copy 89 = .ok (.iload 5, 2) := by decide +kernel
theorem dX10_copy_91 : decode cX10_copy 91 = .ok (.i2l, 1) := by decide +kernel
theorem dX10_copy_92 : decode cX10_copy 92 = .ok (.ladd, 1) := by decide +kernel
theorem dX10_copy_93 : decode cX10_copy 93 = .ok (.aload_n 0, 1) := by decide +kernel
theorem dX10_copy_94 : decode cX10_copy 94 = .ok (.getfield 47, 3) := by decide +kernel
theorem dX10_copy_97 : decode cX10_copy 97 = .ok (.iload_n 3, 1) := by decide +kernel
theorem dX10_copy_98 : decode cX10_copy 98 = .ok (.iaload, 1) := by decide +kernel
theorem dX10_copy_99 : decode cX10_copy 99 = .ok (.i2l, 1) := by decide +kernel
theorem dX10_copy_100 : decode cX10_copy 100 = .ok (.lcmp, 1) := by decide +kernel
theorem dX10_copy_101 : decode cX10_copy 101 = .ok (.ifCond .le 6, 3) := by decide +kernel
theorem dX10_copy_104 : decode cX10_copy 104 = .ok (.bipush (-13), 2) := by decide +kernel
theorem dX10_copy_106 : decode cX10_copy 106 = .ok (.ireturn, 1) := by decide +kernel
theorem dX10_copy_107 : decode cX10_copy 107 = .ok (.iconst 0, 1) := by decide +kernel
theorem dX10_copy_108 : decode cX10_copy 108 = .ok (.istore 6, 2) := by decide +kernel
theorem dX10_copy_110 : decode cX10_copy 110 = .ok (.iload 6, 2) := by decide +kernel
theorem dX10_copy_112 : decode cX10_copy 112 = .ok (.iload 5, 2) := by decide +kernel
theorem dX10_copy_114 : decode cX10_copy 114 = .ok (.if_icmp .ge 30, 3) := by decide +kernel
theorem dX10_copy_117 : decode cX10_copy 117 = .ok (.aload_n 0, 1) := by decide +kernel
theorem dX10_copy_118 : decode cX10_copy 118 = .ok (.getfield 54, 3) := by decide +kernel
theorem dX10_copy_121 : decode cX10_copy 121 = .ok (.iload 6, 2) := by decide +kernel
theorem dX10_copy_123 : decode cX10_copy 123 = .ok (.aload_n 0, 1) := by decide +kernel
theorem dX10_copy_124 : decode cX10_copy 124 = .ok (.getfield 50, 3) := by decide +kernel
theorem dX10_copy_127 : decode cX10_copy 127 = .ok (.bipush 24, 2) := by decide +kernel
theorem dX10_copy_129 : decode cX10_copy 129 = .ok (.iload_n 1, 1) := by decide +kernel
theorem dX10_copy_130 : decode cX10_copy 130 = .ok (.imul, 1) := by decide +kernel
theorem dX10_copy_131 : decode cX10_copy 131 = .ok (.iload_n 2, 1) := by decide +kernel
theorem dX10_copy_132 : decode cX10_copy 132 = .ok (.iadd, 1) := by decide +kernel
theorem dX10_copy_133 : decode cX10_copy 133 = .ok (.iload 6, 2) := by decide +kernel
theorem dX10_copy_135 : decode cX10_copy 135 = .ok (.iadd, 1) := by decide +kernel
theorem dX10_copy_136 : decode cX10_copy 136 = .ok (.laload, 1) := by decide +kernel
theorem dX10_copy_137 : decode cX10_copy 137 = .ok (.lastore, 1) := by decide +kernel
theorem dX10_copy_138 : decode cX10_copy 138 = .ok (.iinc 6 1, 3) := by decide +kernel
theorem dX10_copy_141 : decode cX10_copy 141 = .ok (.goto (-31), 3) := by decide +kernel
theorem dX10_copy_144 : decode cX10_copy 144 = .ok (.iconst 0, 1) := by decide +kernel
theorem dX10_copy_145 : decode cX10_copy 145 = .ok (.istore 6, 2) := by decide +kernel
theorem dX10_copy_147 : decode cX10_copy 147 = .ok (.iload 6, 2) := by decide +kernel
theorem dX10_copy_149 : decode cX10_copy 149 = .ok (.iload 5, 2) := by decide +kernel
theorem dX10_copy_151 : decode cX10_copy 151 = .ok (.if_icmp .ge 31, 3) := by decide +kernel
theorem dX10_copy_154 : decode cX10_copy 154 = .ok (.aload_n 0, 1) := by decide +kernel
theorem dX10_copy_155 : decode cX10_copy 155 = .ok (.getfield 50, 3) := by decide +kernel
theorem dX10_copy_158 : decode cX10_copy 158 = .ok (.bipush 24, 2) := by decide +kernel
theorem dX10_copy_160 : decode cX10_copy 160 = .ok (.iload_n 3, 1) := by decide +kernel
theorem dX10_copy_161 : decode cX10_copy 161 = .ok (.imul, 1) := by decide +kernel
theorem dX10_copy_162 : decode cX10_copy 162 = .ok (.iload 4, 2) := by decide +kernel
theorem dX10_copy_164 : decode cX10_copy 164 = .ok (.iadd, 1) := by decide +kernel
theorem dX10_copy_165 : decode cX10_copy 165 = .ok (.iload 6, 2) := by decide +kernel
theorem dX10_copy_167 : decode cX10_copy 167 = .ok (.iadd, 1) := by decide +kernel
theorem dX10_copy_168 : decode cX10_copy 168 = .ok (.aload_n 0, 1) := by decide +kernel
theorem dX10_copy_169 : decode cX10_copy 169 = .ok (.getfield 54, 3) := by decide +kernel
theorem dX10_copy_172 : decode cX10_copy 172 = .ok (.iload 6, 2) := by decide +kernel
theorem dX10_copy_174 : decode cX10_copy 174 = .ok (.laload, 1) := by decide +kernel
theorem dX10_copy_175 : decode cX10_copy 175 = .ok (.lastore, 1) := by decide +kernel
theorem dX10_copy_176 : decode cX10_copy 176 = .ok (.iinc 6 1, 3) := by decide +kernel
theorem dX10_copy_179 : decode cX10_copy 179 = .ok (.goto (-32), 3) := by decide +kernel
theorem dX10_copy_182 : decode cX10_copy 182 = .ok (.iload 5, 2) := by decide +kernel
theorem dX10_copy_184 : decode cX10_copy 184 = .ok (.ireturn, 1) := by decide +kernel
theorem dX10_log_0 : decode cX10_log 0 = .ok (.iload_n 1, 1) := by decide +kernel
theorem dX10_log_1 : decode cX10_log 1 = .ok (.invokestatic 235, 3) := by decide +kernel
theorem dX10_log_4 : decode cX10_log 4 = .ok (.ifCond .eq 28, 3) := by decide +kernel
theorem dX10_log_7 : decode cX10_log 7 = .ok (.iload_n 2, 1) := by decide +kernel
theorem dX10_log_8 : decode cX10_log 8 = .ok (.i2l, 1) := by decide +kernel
theorem dX10_log_9 : decode cX10_log 9 = .ok (.lconst 0, 1) := by decide +kernel
theorem dX10_log_10 : decode cX10_log 10 = .ok (.ldc2_w 233, 3) := by decide +kernel
theorem dX10_log_13 : decode cX10_log 13 = .ok (.invokestatic 77, 3) := by decide +kernel
theorem dX10_log_16 : decode cX10_log 16 = .ok (.ifCond .eq 16, 3) := by decide +kernel
theorem dX10_log_19 : decode cX10_log 19 = .ok (.iload 4, 2) := by decide +kernel
theorem dX10_log_21 : decode cX10_log 21 = .ok (.i2l, 1) := by decide +kernel
theorem dX10_log_22 : decode cX10_log 22 = .ok (.lconst 1, 1) := by decide +kernel
theorem dX10_log_23 : decode cX10_log 23 = .ok (.ldc2_w 248, 3) := by decide +kernel
theorem dX10_log_26 : decode cX10_log 26 = .ok (.invokestatic 77, 3) := by decide +kernel
theorem dX10_log_29 : decode cX10_log 29 = .ok (.ifCond .ne 5, 3) := by decide +kernel
theorem dX10_log_32 : decode cX10_log 32 = .ok (.iconst (-1), 1) := by decide +kernel
theorem dX10_log_33 : decode cX10_log 33 = .ok (.ireturn, 1) := by decide +kernel
theorem dX10_log_34 : decode cX10_log 34 = .ok (.aload_n 0, 1) := by decide +kernel
theorem dX10_log_35 : decode cX10_log 35 = .ok (.iload_n 1, 1) := by decide +kernel
theorem dX10_log_36 : decode cX10_log 36 = .ok (.iload_n 2, 1) := by decide +kernel
theorem dX10_log_37 : decode cX10_log 37 = .ok (.iload_n 3, 1) := by decide +kernel
theorem dX10_log_38 : decode cX10_log 38 = .ok (.iload 4, 2) := by decide +kernel
theorem dX10_log_40 : decode cX10_log 40 = .ok (.invokevirtual 240, 3) := by decide +kernel
theorem dX10_log_43 : decode cX10_log 43 = .ok (.istore 5, 2) := by decide +kernel
theorem dX10_log_45 : decode cX10_log 45 = .ok (.iload 5, 2) := by decide +kernel
theorem dX10_log_47 : decode cX10_log 47 = .ok (.ifCond .lt 10, 3) := by decide +kernel
theorem dX10_log_50 : decode cX10_log 50 = .ok (.aload_n 0, 1) := by decide +kernel
theorem dX10_log_51 : decode cX10_log 51 = .ok (.invokevirtual 159, 3) := by decide +kernel
theorem dX10_log_54 : decode cX10_log 54 = .ok (.ifCond .ne 16, 3) := by decide +kernel
theorem dX10_log_57 : decode cX10_log 57 = .ok (.iload 5, 2) := by decide +kernel
theorem dX10_log_59 : decode cX10_log 59 = .ok (.ifCond .ge 8, 3) := by decide +kernel
theorem dX10_log_62 : decode cX10_log 62 = .ok (.iload 5, 2) := by decide +kernel
theorem dX10_log_64 : decode cX10_log 64 = .ok (.goto 5, 3) := by decide +kernel
theorem dX10_log_67 : decode cX10_log 67 = .ok (.bipush (-2), 2) := by decide +kernel
theorem dX10_log_69 : decode cX10_log 69 = .ok (.ireturn, 1) := by decide +kernel
theorem dX10_log_70 : decode cX10_log 70 = .ok (.aload_n 0, 1) := by decide +kernel
theorem dX10_log_71 : decode cX10_log 71 = .ok (.invokevirtual 177, 3) := by decide +kernel
theorem dX10_log_74 : decode cX10_log 74 = .ok (.istore 6, 2) := by decide +kernel
theorem dX10_log_76 : decode cX10_log 76 = .ok (.iconst 0, 1) := by decide +kernel
theorem dX10_log_77 : decode cX10_log 77 = .ok (.istore 7, 2) := by decide +kernel
theorem dX10_log_79 : decode cX10_log 79 = .ok (.iload 7, 2) := by decide +kernel
theorem dX10_log_81 : decode cX10_log 81 = .ok (.iload 4, 2) := by decide +kernel
theorem dX10_log_83 : decode cX10_log 83 = .ok (.if_icmp .ge 41, 3) := by decide +kernel
theorem dX10_log_86 : decode cX10_log 86 = .ok (.aload_n 0, 1) := by decide +kernel
theorem dX10_log_87 : decode cX10_log 87 = .ok (.iload 6, 2) := by decide +kernel
theorem dX10_log_89 : decode cX10_log 89 = .ok (.iload 7, 2) := by decide +kernel
theorem dX10_log_91 : decode cX10_log 91 = .ok (.iconst 2, 1) := by decide +kernel
theorem dX10_log_92 : decode cX10_log 92 = .ok (.irem, 1) := by decide +kernel
theorem dX10_log_93 : decode cX10_log 93 = .ok (.invokevirtual 194, 3) := by decide +kernel
theorem dX10_log_96 : decode cX10_log 96 = .ok (.istore 6, 2) := by decide +kernel
theorem dX10_log_98 : decode cX10_log 98 = .ok (.aload_n 0, 1) := by decide +kernel
theorem dX10_log_99 : decode cX10_log 99 = .ok (.getfield 50, 3) := by decide +kernel
theorem dX10_log_102 : decode cX10_log 102 = .ok (.bipush 24, 2) := by decide +kernel
theorem dX10_log_104 : decode cX10_log 104 = .ok (.iload_n 1, 1) := by decide +kernel
theorem dX10_log_105 : decode cX10_log 105 = .ok (.imul, 1) := by decide +kernel
theorem dX10_log_106 : decode cX10_log 106 = .ok (.iload_n 3, 1) := by decide +kernel
theorem dX10_log_107 : decode cX10_log 107 = .ok (.iadd, 1) := by decide +kernel
theorem dX10_log_108 : decode cX10_log 108 = .ok (.iload 7, 2) := by decide +kernel
theorem dX10_log_110 : decode cX10_log 110 = .ok (.iadd, 1) := by decide +kernel
theorem dX10_log_111 : decode cX10_log 111 = .ok (.iload 6, 2) := by decide +kernel
theorem dX10_log_113 : decode cX10_log 113 = .ok (.bipush 8, 2) := by decide +kernel
theorem dX10_log_115 : decode cX10_log 115 = .ok (.idiv, 1) := by decide +kernel
theorem dX10_log_116 : decode cX10_log 116 = .ok (.i2l, 1) := by decide +kernel
theorem dX10_log_117 : decode cX10_log 117 = .ok (.lastore, 1) := by decide +kernel
theorem dX10_log_118 : decode cX10_log 118 = .ok (.iinc 7 1, 3) := by decide +kernel
theorem dX10_log_121 : decode cX10_log 121 = .ok (.goto (-42), 3) := by decide +kernel
theorem dX10_log_124 : decode cX10_log 124 = .ok (.iload 4, 2) := by decide +kernel
theorem dX10_log_126 : decode cX10_log 126 = .ok (.ireturn, 1) := by decide +kernel
theorem dX10_pairs_0 : decode cX10_pairs 0 = .ok (.iconst 0, 1) := by decide +kernel
theorem dX10_pairs_1 : decode cX10_pairs 1 = .ok (.istore_n 2, 1) := by decide +kernel
theorem dX10_pairs_2 : decode cX10_pairs 2 = .ok (.iconst 0, 1) := by decide +kernel
theorem dX10_pairs_3 : decode cX10_pairs 3 = .ok (.istore_n 3, 1) := by decide +kernel
theorem dX10_pairs_4 : decode cX10_pairs 4 = .ok (.iload_n 3, 1) := by decide +kernel
theorem dX10_pairs_5 : decode cX10_pairs 5 = .ok (.iload_n 1, 1) := by decide +kernel
theorem dX10_pairs_6 : decode cX10_pairs 6 = .ok (.if_icmp .ge 56, 3) := by decide +kernel
theorem dX10_pairs_9 : decode cX10_pairs 9 = .ok (.iload_n 3, 1) := by decide +kernel
theorem dX10_pairs_10 : decode cX10_pairs 10 = .ok (.iconst 2, 1) := by decide +kernel
theorem dX10_pairs_11 : decode cX10_pairs 11 = .ok (.iadd, 1) := by decide +kernel
theorem dX10_pairs_12 : decode cX10_pairs 12 = .ok (.istore 4, 2) := by decide +kernel
theorem dX10_pairs_14 : decode cX10_pairs 14 = .ok (.iload 4, 2) := by decide +kernel
theorem dX10_pairs_16 : decode cX10_pairs 16 = .ok (.iload_n 1, 1) := by decide +kernel
theorem dX10_pairs_17 : decode cX10_pairs 17 = .ok (.if_icmp .ge 39, 3) := by decide +kernel
theorem dX10_pairs_20 : decode cX10_pairs 20 = .ok (.iload_n 3, 1) := by decide +kernel
theorem dX10_pairs_21 : decode cX10_pairs 21 = .ok (.ifCond .gt 11, 3) := by decide +kernel
theorem dX10_pairs_24 : decode cX10_pairs 24 = .ok (.iload 4, 2) := by decide +kernel
theorem dX10_pairs_26 : decode cX10_pairs 26 = .ok (.iload_n 1, 1) := by decide +kernel
theorem dX10_pairs_27 : decode cX10_pairs 27 = .ok (.iconst 1, 1) := by decide +kernel
theorem dX10_pairs_28 : decode cX10_pairs 28 = .ok (.isub, 1) := by decide +kernel
theorem dX10_pairs_29 : decode cX10_pairs 29 = .ok (.if_icmp .ge 21, 3) := by decide +kernel
theorem dX10_pairs_32 : decode cX10_pairs 32 = .ok (.aload_n 0, 1) := by decide +kernel
theorem dX10_pairs_33 : decode cX10_pairs 33 = .ok (.getfield 60, 3) := by decide +kernel
theorem dX10_pairs_36 : decode cX10_pairs 36 = .ok (.iload_n 2, 1) := by decide +kernel
theorem dX10_pairs_37 : decode cX10_pairs 37 = .ok (.iload_n 3, 1) := by decide +kernel
theorem dX10_pairs_38 : decode cX10_pairs 38 = .ok (.iastore, 1) := by decide +kernel
theorem dX10_pairs_39 : decode cX10_pairs 39 = .ok (.aload_n 0, 1) := by decide +kernel
theorem dX10_pairs_40 : decode cX10_pairs 40 = .ok (.getfield 63, 3) := by decide +kernel
theorem dX10_pairs_43 : decode cX10_pairs 43 = .ok (.iload_n 2, 1) := by decide +kernel
theorem dX10_pairs_44 : decode cX10_pairs 44 = .ok (.iload 4, 2) := by decide +kernel
theorem dX10_pairs_46 : decode cX10_pairs 46 = .ok (.iastore, 1) := by decide +kernel
theorem dX10_pairs_47 : decode cX10_pairs 47 = .ok (.iinc 2 1, 3) := by decide +kernel
theorem dX10_pairs_50 : decode cX10_pairs 50 = .ok (.iinc 4 1, 3) := by decide +kernel
theorem dX10_pairs_53 : decode cX10_pairs 53 = .ok (.goto (-39), 3) := by decide +kernel
theorem dX10_pairs_56 : decode cX10_pairs 56 = .ok (.iinc 3 1, 3) := by decide +kernel
theorem dX10_pairs_59 : decode cX10_pairs 59 = .ok (.goto (-55), 3) := by decide +kernel
theorem dX10_pairs_62 : decode cX10_pairs 62 = .ok (.iload_n 2, 1) := by decide +kernel
theorem dX10_pairs_63 : decode cX10_pairs 63 = .ok (.ireturn, 1) := by decide +kernel
theorem dX10_lays_0 : decode cX10_lays 0 = .ok (.aload_n 0, 1) := by decide +kernel
theorem dX10_lays_1 : decode cX10_lays 1 = .ok (.getfield 69, 3) := by decide +kernel
theorem dX10_lays_4 : decode cX10_lays 4 = .ok (.iconst 0, 1) := by decide +kernel
theorem dX10_lays_5 : decode cX10_lays 5 = .ok (.iload_n 1, 1) := by decide +kernel
theorem dX10_lays_6 : decode cX10_lays 6 = .ok (.invokestatic 112, 3) := by decide +kernel
theorem dX10_lays_9 : decode cX10_lays 9 = .ok (.iconst 0, 1) := by decide +kernel
theorem dX10_lays_10 : decode cX10_lays 10 = .ok (.istore_n 3, 1) := by decide +kernel
theorem dX10_lays_11 : decode cX10_lays 11 = .ok (.iload_n 3, 1) := by decide +kernel
theorem dX10_lays_12 : decode cX10_lays 12 = .ok (.iload_n 2, 1) := by decide +kernel
theorem dX10_lays_13 : decode cX10_lays 13 = .ok (.if_icmp .ge 39, 3) := by decide +kernel
theorem dX10_lays_16 : decode cX10_lays 16 = .ok (.aload_n 0, 1) := by decide +kernel
theorem dX10_lays_17 : decode cX10_lays 17 = .ok (.getfield 69, 3) := by decide +kernel
theorem dX10_lays_20 : decode cX10_lays 20 = .ok (.iconst 0, 1) := by decide +kernel
theorem dX10_lays_21 : decode cX10_lays 21 = .ok (.aload_n 0, 1) := by decide +kernel
theorem dX10_lays_22 : decode cX10_lays 22 = .ok (.getfield 60, 3) := by decide +kernel
theorem dX10_lays_25 : decode cX10_lays 25 = .ok (.aload_n 0, 1) := by decide +kernel
theorem dX10_lays_26 : decode cX10_lays 26 = .ok (.getfield 66, 3) := by decide +kernel
theorem dX10_lays_29 : decode cX10_lays 29 = .ok (.iload_n 3, 1) := by decide +kernel
theorem dX10_lays_30 : decode cX10_lays 30 = .ok (.iaload, 1) := by decide +kernel
theorem dX10_lays_31 : decode cX10_lays 31 = .ok (.iaload, 1) := by decide +kernel
theorem dX10_lays_32 : decode cX10_lays 32 = .ok (.aload_n 0, 1) := by decide +kernel
theorem dX10_lays_33 : decode cX10_lays 33 = .ok (.getfield 63, 3) := by decide +kernel
theorem dX10_lays_36 : decode cX10_lays 36 = .ok (.aload_n 0, 1) := by decide +kernel
theorem dX10_lays_37 : decode cX10_lays 37 = .ok (.getfield 66, 3) := by decide +kernel
theorem dX10_lays_40 : decode cX10_lays 40 = .ok (.iload_n 3, 1) := by decide +kernel
theorem dX10_lays_41 : decode cX10_lays 41 = .ok (.iaload, 1) := by decide +kernel
theorem dX10_lays_42 : decode cX10_lays 42 = .ok (.iaload, 1) := by decide +kernel
theorem dX10_lays_43 : decode cX10_lays 43 = .ok (.invokestatic 108, 3) := by decide +kernel
theorem dX10_lays_46 : decode cX10_lays 46 = .ok (.iinc 3 1, 3) := by decide +kernel
theorem dX10_lays_49 : decode cX10_lays 49 = .ok (.goto (-38), 3) := by decide +kernel
theorem dX10_lays_52 : decode cX10_lays 52 = .ok (.return_, 1) := by decide +kernel
theorem dX10_all_0 : decode cX10_all 0 = .ok (.aload_n 0, 1) := by decide +kernel
theorem dX10_all_1 : decode cX10_all 1 = .ok (.iload_n 1, 1) := by decide +kernel
theorem dX10_all_2 : decode cX10_all 2 = .ok (.invokevirtual 250, 3) := by decide +kernel
theorem dX10_all_5 : decode cX10_all 5 = .ok (.istore_n 2, 1) := by decide +kernel
theorem dX10_all_6 : decode cX10_all 6 = .ok (.iconst 0, 1) := by decide +kernel
theorem dX10_all_7 : decode cX10_all 7 = .ok (.istore_n 3, 1) := by decide +kernel
theorem dX10_all_8 : decode cX10_all 8 = .ok (.iconst 0, 1) := by decide +kernel
theorem dX10_all_9 : decode cX10_all 9 = .ok (.istore 4, 2) := by decide +kernel
theorem dX10_all_11 : decode cX10_all 11 = .ok (.aload_n 0, 1) := by decide +kernel
theorem dX10_all_12 : decode cX10_all 12 = .ok (.iconst 0, 1) := by decide +kernel
theorem dX10_all_13 : decode cX10_all 13 = .ok (.putfield 253, 3) := by decide +kernel
theorem dX10_all_16 : decode cX10_all 16 = .ok (.iload_n 3, 1) := by decide +kernel
theorem dX10_all_17 : decode cX10_all 17 = .ok (.ifCond .lt 152, 3) := by decide +kernel
theorem dX10_all_20 : decode cX10_all 20 = .ok (.aload_n 0, 1) := by decide +kernel
theorem dX10_all_21 : decode cX10_all 21 = .ok (.iload_n 1, 1) := by decide +kernel
theorem dX10_all_22 : decode cX10_all 22 = .ok (.iload_n 3, 1) := by decide +kernel
theorem dX10_all_23 : decode cX10_all 23 = .ok (.invokevirtual 256, 3) := by decide +kernel
theorem dX10_all_26 : decode cX10_all 26 = .ok (.iload_n 3, 1) := by decide +kernel
theorem dX10_all_27 : decode cX10_all 27 = .ok (.iload_n 1, 1) := by decide +kernel
theorem dX10_all_28 : decode cX10_all 28 = .ok (.iconst 3, 1) := by decide +kernel
theorem dX10_all_29 : decode cX10_all 29 = .ok (.isub, 1) := by decide +kernel
theorem dX10_all_30 : decode cX10_all 30 = .ok (.if_icmp .ne 54, 3) := by decide +kernel
theorem dX10_all_33 : decode cX10_all 33 = .ok (.iconst 0, 1) := by decide +kernel
theorem dX10_all_34 : decode cX10_all 34 = .ok (.istore 5, 2) := by decide +kernel
theorem dX10_all_36 : decode cX10_all 36 = .ok (.iload 5, 2) := by decide +kernel
theorem dX10_all_38 : decode cX10_all 38 = .ok (.bipush 8, 2) := by decide +kernel
theorem dX10_all_40 : decode cX10_all 40 = .ok (.if_icmp .ge 31, 3) := by decide +kernel
theorem dX10_all_43 : decode cX10_all 43 = .ok (.aload_n 0, 1) := by decide +kernel
theorem dX10_all_44 : decode cX10_all 44 = .ok (.getfield 57, 3) := by decide +kernel
theorem dX10_all_47 : decode cX10_all 47 = .ok (.bipush 8, 2) := by decide +kernel
theorem dX10_all_49 : decode cX10_all 49 = .ok (.aload_n 0, 1) := by decide +kernel
theorem dX10_all_50 : decode cX10_all 50 = .ok (.getfield 253, 3) := by decide +kernel
theorem dX10_all_53 : decode cX10_all 53 = .ok (.imul, 1) := by decide +kernel
theorem dX10_all_54 : decode cX10_all 54 = .ok (.iload 5, 2) := by decide +kernel
theorem dX10_all_56 : decode cX10_all 56 = .ok (.iadd, 1) := by decide +kernel
theorem dX10_all_57 : decode cX10_all 57 = .ok (.aload_n 0, 1) := by decide +kernel
theorem dX10_all_58 : decode cX10_all 58 = .ok (.getfield 69, 3) := by decide +kernel
theorem dX10_all_61 : decode cX10_all 61 = .ok (.iload 5, 2) := by decide +kernel
theorem dX10_all_63 : decode cX10_all 63 = .ok (.iaload, 1) := by decide +kernel
theorem dX10_all_64 : decode cX10_all 64 = .ok (.iastore, 1) := by decide +kernel
theorem dX10_all_65 : decode cX10_all 65 = .ok (.iinc 5 1, 3) := by decide +kernel
theorem dX10_all_68 : decode cX10_all 68 = .ok (.goto (-32), 3) := by decide +kernel
theorem dX10_all_71 : decode cX10_all 71 = .ok (.aload_n 0, 1) := by decide +kernel
theorem dX10_all_72 : decode cX10_all 72 = .ok (.dup, 1) := by decide +kernel
theorem dX10_all_73 : decode cX10_all 73 = .ok (.getfield 253, 3) := by decide +kernel
theorem dX10_all_76 : decode cX10_all 76 = .ok (.iconst 1, 1) := by decide +kernel
theorem dX10_all_77 : decode cX10_all 77 = .ok (.iadd, 1) := by decide +kernel
theorem dX10_all_78 : decode cX10_all 78 = .ok (.putfield 253, 3) := by decide +kernel
theorem dX10_all_81 : decode cX10_all 81 = .ok (.iload_n 2, 1) := by decide +kernel
theorem dX10_all_82 : decode cX10_all 82 = .ok (.istore 4, 2) := by decide +kernel
theorem dX10_all_84 : decode cX10_all 84 = .ok (.iload 4, 2) := by decide +kernel
theorem dX10_all_86 : decode cX10_all 86 = .ok (.iload_n 2, 1) := by decide +kernel
theorem dX10_all_87 : decode cX10_all 87 = .ok (.if_icmp .ge 35, 3) := by decide +kernel
theorem dX10_all_90 : decode cX10_all 90 = .ok (.aload_n 0, 1) := by decide +kernel
theorem dX10_all_91 : decode cX10_all 91 = .ok (.getfield 69, 3) := by decide +kernel
theorem dX10_all_94 : decode cX10_all 94 = .ok (.iconst 0, 1) := by decide +kernel
theorem dX10_all_95 : decode cX10_all 95 = .ok (.iload_n 1, 1) := by decide +kernel
theorem dX10_all_96 : decode cX10_all 96 = .ok (.aload_n 0, 1) := by decide +kernel
theorem dX10_all_97 : decode cX10_all 97 = .ok (.getfield 60, 3) := by decide +kernel
theorem dX10_all_100 : decode cX10_all 100 = .ok (.iload 4, 2) := by decide +kernel
theorem dX10_all_102 : decode cX10_all 102 = .ok (.iaload, 1) := by decide +kernel
theorem dX10_all_103 : decode cX10_all 103 = .ok (.aload_n 0, 1) := by decide +kernel
theorem dX10_all_104 : decode cX10_all 104 = .ok (.getfield 63, 3) := by decide +kernel
theorem dX10_all_107 : decode cX10_all 107 = .ok (.iload 4, 2) := by decide +kernel
theorem dX10_all_109 : decode cX10_all 109 = .ok (.iaload, 1) := by decide +kernel
theorem dX10_all_110 : decode cX10_all 110 = .ok (.invokestatic 116, 3) := by decide +kernel
theorem dX10_all_113 : decode cX10_all 113 = .ok (.ifCond .ne 9, 3) := by decide +kernel
theorem dX10_all_116 : decode cX10_all 116 = .ok (.iinc 4 1, 3) := by decide +kernel
theorem dX10_all_119 : decode cX10_all 119 = .ok (.goto (-35), 3) := by decide +kernel
theorem dX10_all_122 : decode cX10_all 122 = .ok (.iload 4, 2) := by decide +kernel
theorem dX10_all_124 : decode cX10_all 124 = .ok (.iload_n 2, 1) := by decide +kernel
theorem dX10_all_125 : decode cX10_all 125 = .ok (.if_icmp .ge 20, 3) := by decide +kernel
theorem dX10_all_128 : decode cX10_all 128 = .ok (.aload_n 0, 1) := by decide +kernel
theorem dX10_all_129 : decode cX10_all 129 = .ok (.getfield 66, 3) := by decide +kernel
theorem dX10_all_132 : decode cX10_all 132 = .ok (.iload_n 3, 1) := by decide +kernel
theorem dX10_all_133 : decode cX10_all 133 = .ok (.iload 4, 2) := by decide +kernel
theorem dX10_all_135 : decode cX10_all 135 = .ok (.iastore, 1) := by decide +kernel
theorem dX10_all_136 : decode cX10_all 136 = .ok (.iinc 3 1, 3) := by decide +kernel
theorem dX10_all_139 : decode cX10_all 139 = .ok (.iinc 4 1, 3) := by decide +kernel
theorem dX10_all_142 : decode cX10_all 142 = .ok (.goto (-126), 3) := by decide +kernel
theorem dX10_all_145 : decode cX10_all 145 = .ok (.iinc 3 (-1), 3) := by decide +kernel
theorem dX10_all_148 : decode cX10_all 148 = .ok (.iload_n 3, 1) := by decide +kernel
theorem dX10_all_149 : decode cX10_all 149 = .ok (.ifCond .lt 14, 3) := by decide +kernel
theorem dX10_all_152 : decode cX10_all 152 = .ok (.aload_n 0, 1) := by decide +kernel
theorem dX10_all_153 : decode cX10_all 153 = .ok (.getfield 66, 3) := by decide +kernel
theorem dX10_all_156 : decode cX10_all 156 = .ok (.iload_n 3, 1) := by decide +kernel
theorem dX10_all_157 : decode cX10_all 157 = .ok (.iaload, 1) := by decide +kernel
theorem dX10_all_158 : decode cX10_all 158 = .ok (.iconst 1, 1) := by decide +kernel
theorem dX10_all_159 : decode cX10_all 159 = .ok (.iadd, 1) := by decide +kernel
theorem dX10_all_160 : decode cX10_all 160 = .ok (.goto 4, 3) := by decide +kernel
theorem dX10_all_163 : decode cX10_all 163 = .ok (.iconst 0, 1) := by decide +kernel
theorem dX10_all_164 : decode cX10_all 164 = .ok (.istore 4, 2) := by decide +kernel
theorem dX10_all_166 : decode cX10_all 166 = .ok (.goto (-150), 3) := by decide +kernel
theorem dX10_all_169 : decode cX10_all 169 = .ok (.return_, 1) := by decide +kernel
theorem dX10_whyNot_0 : decode cX10_whyNot 0 = .ok (.aload_n 0, 1) := by decide +kernel
theorem dX10_whyNot_1 : decode cX10_whyNot 1 = .ok (.getfield 7, 3) := by decide +kernel
theorem dX10_whyNot_4 : decode cX10_whyNot 4 = .ok (.iconst 0, 1) := by decide +kernel
theorem dX10_whyNot_5 : decode cX10_whyNot 5 = .ok (.iaload, 1) := by decide +kernel
theorem dX10_whyNot_6 : decode cX10_whyNot 6 = .ok (.istore_n 3, 1) := by decide +kernel
theorem dX10_whyNot_7 : decode cX10_whyNot 7 = .ok (.aload_n 0, 1) := by decide +kernel
theorem dX10_whyNot_8 : decode cX10_whyNot 8 = .ok (.getfield 50, 3) := by decide +kernel
theorem dX10_whyNot_11 : decode cX10_whyNot 11 = .ok (.iload_n 1, 1) := by decide +kernel
theorem dX10_whyNot_12 : decode cX10_whyNot 12 = .ok (.laload, 1) := by decide +kernel
theorem dX10_whyNot_13 : decode cX10_whyNot 13 = .ok (.lconst 0, 1) := by decide +kernel
theorem dX10_whyNot_14 : decode cX10_whyNot 14 = .ok (.iload_n 3, 1) := by decide +kernel
theorem dX10_whyNot_15 : decode cX10_whyNot 15 = .ok (.iconst 1, 1) := by decide +kernel
theorem dX10_whyNot_16 : decode cX10_whyNot 16 = .ok (.isub, 1) := by decide +kernel
theorem dX10_whyNot_17 : decode cX10_whyNot 17 = .ok (.i2l, 1) := by decide +kernel
theorem dX10_whyNot_18 : decode cX10_whyNot 18 = .ok (.invokestatic 77, 3) := by decide +kernel
theorem dX10_whyNot_21 : decode cX10_whyNot 21 = .ok (.ifCond .eq 44, 3) := by decide +kernel
theorem dX10_whyNot_24 : decode cX10_whyNot 24 = .ok (.aload_n 0, 1) := by decide +kernel
theorem dX10_whyNot_25 : decode cX10_whyNot 25 = .ok (.getfield 50, 3) := by decide +kernel
theorem dX10_whyNot_28 : decode cX10_whyNot 28 = .ok (.iload_n 1, 1) := by decide +kernel
theorem dX10_whyNot_29 : decode cX10_whyNot 29 = .ok (.iconst 1, 1) := by decide +kernel
theorem dX10_whyNot_30 : decode cX10_whyNot 30 = .ok (.iadd, 1) := by decide +kernel
theorem dX10_whyNot_31 : decode cX10_whyNot 31 = .ok (.laload, 1) := by decide +kernel
theorem dX10_whyNot_32 : decode cX10_whyNot 32 = .ok (.lconst 0, 1) := by decide +kernel
theorem dX10_whyNot_33 : decode cX10_whyNot 33 = .ok (.iload_n 3, 1) := by decide +kernel
theorem dX10_whyNot_34 : decode cX10_whyNot 34 = .ok (.iconst 1, 1) := by decide +kernel
theorem dX10_whyNot_35 : decode cX10_whyNot 35 = .ok (.isub, 1) := by decide +kernel
theorem dX10_whyNot_36 : decode cX10_whyNot 36 = .ok (.i2l, 1) := by decide +kernel
theorem dX10_whyNot_37 : decode cX10_whyNot 37 = .ok (.invokestatic 77, 3) := by decide +kernel
theorem dX10_whyNot_40 : decode cX10_whyNot 40 = .ok (.ifCond .eq 25, 3) := by decide +kernel
theorem dX10_whyNot_43 : decode cX10_whyNot 43 = .ok (.aload_n 0, 1) := by decide +kernel
theorem dX10_whyNot_44 : decode cX10_whyNot 44 = .ok (.getfield 50, 3) := by decide +kernel
theorem dX10_whyNot_47 : decode cX10_whyNot 47 = .ok (.iload_n 1, 1) := by decide +kernel
theorem dX10_whyNot_48 : decode cX10_whyNot 48 = .ok (.laload, 1) := by decide +kernel
theorem dX10_whyNot_49 : decode cX10_whyNot 49 = .ok (.aload_n 0, 1) := by decide +kernel
theorem dX10_whyNot_50 : decode cX10_whyNot 50 = .ok (.getfield 50, 3) := by decide +kernel
theorem dX10_whyNot_53 : decode cX10_whyNot 53 = .ok (.iload_n 1, 1) := by decide +kernel
theorem dX10_whyNot_54 : decode cX10_whyNot 54 = .ok (.iconst 1, 1) := by decide +kernel
theorem dX10_whyNot_55 : decode cX10_whyNot 55 = .ok (.iadd, 1) := by decide +kernel
theorem dX10_whyNot_56 : decode cX10_whyNot 56 = .ok (.laload, 1) := by decide +kernel
theorem dX10_whyNot_57 : decode cX10_whyNot 57 = .ok (.lcmp, 1) := by decide +kernel
theorem dX10_whyNot_58 : decode cX10_whyNot 58 = .ok (.ifCond .eq 7, 3) := by decide +kernel
theorem dX10_whyNot_61 : decode cX10_whyNot 61 = .ok (.iconst 1, 1) := by decide +kernel
theorem dX10_whyNot_62 : decode cX10_whyNot 62 = .ok (.goto 4, 3) := by decide +kernel
theorem dX10_whyNot_65 : decode cX10_whyNot 65 = .ok (.iconst 0, 1) := by decide +kernel
theorem dX10_whyNot_66 : decode cX10_whyNot 66 = .ok (.istore 4, 2) := by decide +kernel
theorem dX10_whyNot_68 : decode cX10_whyNot 68 = .ok (.iconst 1, 1) := by decide +kernel
theorem dX10_whyNot_69 : decode cX10_whyNot 69 = .ok (.istore 5, 2) := by decide +kernel
theorem dX10_whyNot_71 : decode cX10_whyNot 71 = .ok (.iload 5, 2) := by decide +kernel
theorem dX10_whyNot_73 : decode cX10_whyNot 73 = .ok (.iload_n 2, 1) := by decide +kernel
theorem dX10_whyNot_74 : decode cX10_whyNot 74 = .ok (.if_icmp .gt 66, 3) := by decide +kernel
theorem dX10_whyNot_77 : decode cX10_whyNot 77 = .ok (.iload 4, 2) := by decide +kernel
theorem dX10_whyNot_79 : decode cX10_whyNot 79 = .ok (.ifCond .eq 52, 3) := by decide +kernel
theorem dX10_whyNot_82 : decode cX10_whyNot 82 = .ok (.aload_n 0, 1) := by decide +kernel
theorem dX10_whyNot_83 : decode cX10_whyNot 83 = .ok (.getfield 50, 3) := by decide +kernel
theorem dX10_whyNot_86 : decode cX10_whyNot 86 = .ok (.iload_n 1, 1) := by decide +kernel
theorem dX10_whyNot_87 : decode cX10_whyNot 87 = .ok (.iconst 2, 1) := by decide +kernel
theorem dX10_whyNot_88 : decode cX10_whyNot 88 = .ok (.iload 5, 2) := by decide +kernel
theorem dX10_whyNot_90 : decode cX10_whyNot 90 = .ok (.imul, 1) := by decide +kernel
theorem dX10_whyNot_91 : decode cX10_whyNot 91 = .ok (.iadd, 1) := by decide +kernel
theorem dX10_whyNot_92 : decode cX10_whyNot 92 = .ok (.laload, 1) := by decide +kernel
theorem dX10_whyNot_93 : decode cX10_whyNot 93 = .ok (.lconst 0, 1) := by decide +kernel
theorem dX10_whyNot_94 : decode cX10_whyNot 94 = .ok (.ldc2_w 260, 3) := by decide +kernel
theorem dX10_whyNot_97 : decode cX10_whyNot 97 = .ok (.invokestatic 77, 3) := by decide +kernel
theorem dX10_whyNot_100 : decode cX10_whyNot 100 = .ok (.ifCond .eq 31, 3) := by decide +kernel
theorem dX10_whyNot_103 : decode cX10_whyNot 103 = .ok (.aload_n 0, 1) := by decide +kernel
theorem dX10_whyNot_104 : decode cX10_whyNot 104 = .ok (.getfield 50, 3) := by decide +kernel
theorem dX10_whyNot_107 : decode cX10_whyNot 107 = .ok (.iload_n 1, 1) := by decide +kernel
theorem dX10_whyNot_108 : decode cX10_whyNot 108 = .ok (.iconst 2, 1) := by decide +kernel
theorem dX10_whyNot_109 : decode cX10_whyNot 109 = .ok (.iload 5, 2) := by decide +kernel
theorem dX10_whyNot_111 : decode cX10_whyNot 111 = .ok (.imul, 1) := by decide +kernel
theorem dX10_whyNot_112 : decode cX10_whyNot 112 = .ok (.iadd, 1) := by decide +kernel
theorem dX10_whyNot_113 : decode cX10_whyNot 113 = .ok (.iconst 1, 1) := by decide +kernel
theorem dX10_whyNot_114 : decode cX10_whyNot 114 = .ok (.iadd, 1) := by decide +kernel
theorem dX10_whyNot_115 : decode cX10_whyNot 115 = .ok (.laload, 1) := by decide +kernel
theorem dX10_whyNot_116 : decode cX10_whyNot 116 = .ok (.lconst 0, 1) := by decide +kernel
theorem dX10_whyNot_117 : decode cX10_whyNot 117 = .ok (.iload_n 3, 1) := by decide +kernel
theorem dX10_whyNot_118 : decode cX10_whyNot 118 = .ok (.iconst 1, 1) := by decide +kernel
theorem dX10_whyNot_119 : decode cX10_whyNot 119 = .ok (.isub, 1) := by decide +kernel
theorem dX10_whyNot_120 : decode cX10_whyNot 120 = .ok (.i2l, 1) := by decide +kernel
theorem dX10_whyNot_121 : decode cX10_whyNot 121 = .ok (.invokestatic 77, 3) := by decide +kernel
theorem dX10_whyNot_124 : decode cX10_whyNot 124 = .ok (.ifCond .eq 7, 3) := by decide +kernel
theorem dX10_whyNot_127 : decode cX10_whyNot 127 = .ok (.iconst 1, 1) := by decide +kernel
theorem dX10_whyNot_128 : decode cX10_whyNot 128 = .ok (.goto 4, 3) := by decide +kernel
theorem dX10_whyNot_131 : decode cX10_whyNot 131 = .ok (.iconst 0, 1) := by decide +kernel
theorem dX10_whyNot_132 : decode cX10_whyNot 132 = .ok (.istore 4, 2) := by decide +kernel
theorem dX10_whyNot_134 : decode cX10_whyNot 134 = .ok (.iinc 5 1, 3) := by decide +kernel
theorem dX10_whyNot_137 : decode cX10_whyNot 137 = .ok (.goto (-66), 3) := by decide +kernel
theorem dX10_whyNot_140 : decode cX10_whyNot 140 = .ok (.iload 4, 2) := by decide +kernel
theorem dX10_whyNot_142 : decode cX10_whyNot 142 = .ok (.ifCond .eq 7, 3) := by decide +kernel
theorem dX10_whyNot_145 : decode cX10_whyNot 145 = .ok (.iconst 0, 1) := by decide +kernel
theorem dX10_whyNot_146 : decode cX10_whyNot 146 = .ok (.goto 5, 3) := by decide +kernel
theorem dX10_whyNot_149 : decode cX10_whyNot 149 = .ok (.bipush (-2), 2) := by decide +kernel
theorem dX10_whyNot_151 : decode cX10_whyNot 151 = .ok (.ireturn, 1) := by decide +kernel
theorem dX10_goesSo_0 : decode cX10_goesSo 0 = .ok (.aload_n 0, 1) := by decide +kernel
theorem dX10_goesSo_1 : decode cX10_goesSo 1 = .ok (.getfield 50, 3) := by decide +kernel
theorem dX10_goesSo_4 : decode cX10_goesSo 4 = .ok (.iload_n 3, 1) := by decide +kernel
theorem dX10_goesSo_5 : decode cX10_goesSo 5 = .ok (.laload, 1) := by decide +kernel
theorem dX10_goesSo_6 : decode cX10_goesSo 6 = .ok (.l2i, 1) := by decide +kernel
theorem dX10_goesSo_7 : decode cX10_goesSo 7 = .ok (.istore 5, 2) := by decide +kernel
theorem dX10_goesSo_9 : decode cX10_goesSo 9 = .ok (.aload_n 0, 1) := by decide +kernel
theorem dX10_goesSo_10 : decode cX10_goesSo 10 = .ok (.getfield 50, 3) := by decide +kernel
theorem dX10_goesSo_13 : decode cX10_goesSo 13 = .ok (.iload_n 3, 1) := by decide +kernel
theorem dX10_goesSo_14 : decode cX10_goesSo 14 = .ok (.iconst 1, 1) := by decide +kernel
theorem dX10_goesSo_15 : decode cX10_goesSo 15 = .ok (.iadd, 1) := by decide +kernel
theorem dX10_goesSo_16 : decode cX10_goesSo 16 = .ok (.laload, 1) := by decide +kernel
theorem dX10_goesSo_17 : decode cX10_goesSo 17 = .ok (.l2i, 1) := by decide +kernel
theorem dX10_goesSo_18 : decode cX10_goesSo 18 = .ok (.istore 6, 2) := by decide +kernel
theorem dX10_goesSo_20 : decode cX10_goesSo 20 = .ok (.aload_n 1, 1) := by decide +kernel
theorem dX10_goesSo_21 : decode cX10_goesSo 21 = .ok (.iload_n 2, 1) := by decide +kernel
theorem dX10_goesSo_22 : decode cX10_goesSo 22 = .ok (.iload 5, 2) := by decide +kernel
theorem dX10_goesSo_24 : decode cX10_goesSo 24 = .ok (.iadd, 1) := by decide +kernel
theorem dX10_goesSo_25 : decode cX10_goesSo 25 = .ok (.iaload, 1) := by decide +kernel
theorem dX10_goesSo_26 : decode cX10_goesSo 26 = .ok (.iload 6, 2) := by decide +kernel
theorem dX10_goesSo_28 : decode cX10_goesSo 28 = .ok (.ishr, 1) := by decide +kernel
theorem dX10_goesSo_29 : decode cX10_goesSo 29 = .ok (.iconst 1, 1) := by decide +kernel
theorem dX10_goesSo_30 : decode cX10_goesSo 30 = .ok (.iand, 1) := by decide +kernel
theorem dX10_goesSo_31 : decode cX10_goesSo 31 = .ok (.iconst 1, 1) := by decide +kernel
theorem dX10_goesSo_32 : decode cX10_goesSo 32 = .ok (.if_icmp .ne 7, 3) := by decide +kernel
theorem dX10_goesSo_35 : decode cX10_goesSo 35 = .ok (.iconst 1, 1) := by decide +kernel
theorem dX10_goesSo_36 : decode cX10_goesSo 36 = .ok (.goto 4, 3) := by decide +kernel
theorem dX10_goesSo_39 : decode cX10_goesSo 39 = .ok (.iconst 0, 1) := by decide +kernel
theorem dX10_goesSo_40 : decode cX10_goesSo 40 = .ok (.istore 7, 2) := by decide +kernel
theorem dX10_goesSo_42 : decode cX10_goesSo 42 = .ok (.iconst 1, 1) := by decide +kernel
theorem dX10_goesSo_43 : decode cX10_goesSo 43 = .ok (.istore 8, 2) := by decide +kernel
theorem dX10_goesSo_45 : decode cX10_goesSo 45 = .ok (.iload 8, 2) := by decide +kernel
theorem dX10_goesSo_47 : decode cX10_goesSo 47 = .ok (.iload 4, 2) := by decide +kernel
theorem dX10_goesSo_49 : decode cX10_goesSo 49 = .ok (.if_icmp .gt 103, 3) := by decide +kernel
theorem dX10_goesSo_52 : decode cX10_goesSo 52 = .ok (.iload 7, 2) := by decide +kernel
theorem dX10_goesSo_54 : decode cX10_goesSo 54 = .ok (.ifCond .eq 98, 3) := by decide +kernel
theorem dX10_goesSo_57 : decode cX10_goesSo 57 = .ok (.aload_n 0, 1) := by decide +kernel
theorem dX10_goesSo_58 : decode cX10_goesSo 58 = .ok (.getfield 50, 3) := by decide +kernel
theorem dX10_goesSo_61 : decode cX10_goesSo 61 = .ok (.iload_n 3, 1) := by decide +kernel
theorem dX10_goesSo_62 : decode cX10_goesSo 62 = .ok (.iconst 2, 1) := by decide +kernel
theorem dX10_goesSo_63 : decode cX10_goesSo 63 = .ok (.iload 8, 2) := by decide +kernel
theorem dX10_goesSo_65 : decode cX10_goesSo 65 = .ok (.imul, 1) := by decide +kernel
theorem dX10_goesSo_66 : decode cX10_goesSo 66 = .ok (.iadd, 1) := by decide +kernel
theorem dX10_goesSo_67 : decode cX10_goesSo 67 = .ok (.laload, 1) := by decide +kernel
theorem dX10_goesSo_68 : decode cX10_goesSo 68 = .ok (.l2i, 1) := by decide +kernel
theorem dX10_goesSo_69 : decode cX10_goesSo 69 = .ok (.istore 9, 2) := by decide +kernel
theorem dX10_goesSo_71 : decode cX10_goesSo 71 = .ok (.iload 9, 2) := by decide +kernel
theorem dX10_goesSo_73 : decode cX10_goesSo 73 = .ok (.iconst 2, 1) := by decide +kernel
theorem dX10_goesSo_74 : decode cX10_goesSo 74 = .ok (.if_icmp .ne 8, 3) := by decide +kernel
theorem dX10_goesSo_77 : decode cX10_goesSo 77 = .ok (.iload 6, 2) := by decide +kernel
theorem dX10_goesSo_79 : decode cX10_goesSo 79 = .ok (.goto 20, 3) := by decide +kernel
theorem dX10_goesSo_82 : decode cX10_goesSo 82 = .ok (.aload_n 1, 1) := by decide +kernel
theorem dX10_goesSo_83 : decode cX10_goesSo 83 = .ok (.iload_n 2, 1) := by decide +kernel
theorem dX10_goesSo_84 : decode cX10_goesSo 84 = .ok (.aload_n 0, 1) := by decide +kernel
theorem dX10_goesSo_85 : decode cX10_goesSo 85 = .ok (.getfield 7, 3) := by decide +kernel
theorem dX10_goesSo_88 : decode cX10_goesSo 88 = .ok (.iconst 0, 1) := by decide +kernel
theorem dX10_goesSo_89 : decode cX10_goesSo 89 = .ok (.iaload, 1) := by decide +kernel
theorem dX10_goesSo_90 : decode cX10_goesSo 90 = .ok (.iload 5, 2) := by decide +kernel
theorem dX10_goesSo_92 : decode cX10_goesSo 92 = .ok (.iload 6, 2) := by decide +kernel
theorem dX10_goesSo_94 : decode cX10_goesSo 94 = .ok (.iload 9, 2) := by decide +kernel
theorem dX10_goesSo_96 : decode cX10_goesSo 96 = .ok (.invokestatic 155, 3) := by decide +kernel
theorem dX10_goesSo_99 : decode cX10_goesSo 99 = .ok (.istore 10, 2) := by decide +kernel
theorem dX10_goesSo_101 : decode cX10_goesSo 101 = .ok (.iload 10, 2) := by decide +kernel
theorem dX10_goesSo_103 : decode cX10_goesSo 103 = .ok (.i2l, 1) := by decide +kernel
theorem dX10_goesSo_104 : decode cX10_goesSo 104 = .ok (.aload_n 0, 1) := by decide +kernel
theorem dX10_goesSo_105 : decode cX10_goesSo 105 = .ok (.getfield 50, 3) := by decide +kernel
theorem dX10_goesSo_108 : decode cX10_goesSo 108 = .ok (.iload_n 3, 1) := by decide +kernel
theorem dX10_goesSo_109 : decode cX10_goesSo 109 = .ok (.iconst 2, 1) := by decide +kernel
theorem dX10_goesSo_110 : decode cX10_goesSo 110 = .ok (.iload 8, 2) := by decide +kernel
theorem dX10_goesSo_112 : decode cX10_goesSo 112 = .ok (.imul, 1) := by decide +kernel
theorem dX10_goesSo_113 : decode cX10_goesSo 113 = .ok (.iadd, 1) := by decide +kernel
theorem dX10_goesSo_114 : decode cX10_goesSo 114 = .ok (.iconst 1, 1) := by decide +kernel
theorem dX10_goesSo_115 : decode cX10_goesSo 115 = .ok (.iadd, 1) := by decide +kernel
theorem dX10_goesSo_116 : decode cX10_goesSo 116 = .ok (.laload, 1) := by decide +kernel
theorem dX10_goesSo_117 : decode cX10_goesSo 117 = .ok (.lcmp, 1) := by decide +kernel
theorem dX10_goesSo_118 : decode cX10_goesSo 118 = .ok (.ifCond .ne 7, 3) := by decide +kernel
theorem dX10_goesSo_121 : decode cX10_goesSo 121 = .ok (.iconst 1, 1) := by decide +kernel
theorem dX10_goesSo_122 : decode cX10_goesSo 122 = .ok (.goto 4, 3) := by decide +kernel
theorem dX10_goesSo_125 : decode cX10_goesSo 125 = .ok (.iconst 0, 1) := by decide +kernel
theorem dX10_goesSo_126 : decode cX10_goesSo 126 = .ok (.istore 7, 2) := by decide +kernel
theorem dX10_goesSo_128 : decode cX10_goesSo 128 = .ok (.iload 5, 2) := by decide +kernel
theorem dX10_goesSo_130 : decode cX10_goesSo 130 = .ok (.istore 6, 2) := by decide +kernel
theorem dX10_goesSo_132 : decode cX10_goesSo 132 = .ok (.iload 7, 2) := by decide +kernel
theorem dX10_goesSo_134 : decode cX10_goesSo 134 = .ok (.ifCond .eq 8, 3) := by decide +kernel
theorem dX10_goesSo_137 : decode cX10_goesSo 137 = .ok (.iload 10, 2) := by decide +kernel
theorem dX10_goesSo_139 : decode cX10_goesSo 139 = .ok (.goto 5, 3) := by decide +kernel
theorem dX10_goesSo_142 : decode cX10_goesSo 142 = .ok (.iload 5, 2) := by decide +kernel
theorem dX10_goesSo_144 : decode cX10_goesSo 144 = .ok (.istore 5, 2) := by decide +kernel
theorem dX10_goesSo_146 : decode cX10_goesSo 146 = .ok (.iinc 8 1, 3) := by decide +kernel
theorem dX10_goesSo_149 : decode cX10_goesSo 149 = .ok (.goto (-104), 3) := by decide +kernel
theorem dX10_goesSo_152 : decode cX10_goesSo 152 = .ok (.iload 7, 2) := by decide +kernel
theorem dX10_goesSo_154 : decode cX10_goesSo 154 = .ok (.ifCond .eq 14, 3) := by decide +kernel
theorem dX10_goesSo_157 : decode cX10_goesSo 157 = .ok (.bipush 8, 2) := by decide +kernel
theorem dX10_goesSo_159 : decode cX10_goesSo 159 = .ok (.iload 5, 2) := by decide +kernel
theorem dX10_goesSo_161 : decode cX10_goesSo 161 = .ok (.imul, 1) := by decide +kernel
theorem dX10_goesSo_162 : decode cX10_goesSo 162 = .ok (.iload 6, 2) := by decide +kernel
theorem dX10_goesSo_164 : decode cX10_goesSo 164 = .ok (.iadd, 1) := by decide +kernel
theorem dX10_goesSo_165 : decode cX10_goesSo 165 = .ok (.goto 5, 3) := by decide +kernel
theorem dX10_goesSo_168 : decode cX10_goesSo 168 = .ok (.bipush (-4), 2) := by decide +kernel
theorem dX10_goesSo_170 : decode cX10_goesSo 170 = .ok (.ireturn, 1) := by decide +kernel
theorem dX10_greatest_0 : decode cX10_greatest 0 = .ok (.iconst 0, 1) := by decide +kernel
theorem dX10_greatest_1 : decode cX10_greatest 1 = .ok (.istore 4, 2) := by decide +kernel
theorem dX10_greatest_3 : decode cX10_greatest 3 = .ok (.iload 4, 2) := by decide +kernel
theorem dX10_greatest_5 : decode cX10_greatest 5 = .ok (.bipush 9, 2) := by decide +kernel
theorem dX10_greatest_7 : decode cX10_greatest 7 = .ok (.if_icmp .ge 17, 3) := by decide +kernel
theorem dX10_greatest_10 : decode cX10_greatest 10 = .ok (.aload_n 0, 1) := by decide +kernel
theorem dX10_greatest_11 : decode cX10_greatest 11 = .ok (.getfield 72, 3) := by decide +kernel
theorem dX10_greatest_14 : decode cX10_greatest 14 = .ok (.iload 4, 2) := by decide +kernel
theorem dX10_greatest_16 : decode cX10_greatest 16 = .ok (.iconst 0, 1) := by decide +kernel
theorem dX10_greatest_17 : decode cX10_greatest 17 = .ok (.iastore, 1) := by decide +kernel
theorem dX10_greatest_18 : decode cX10_greatest 18 = .ok (.iinc 4 1, 3) := by decide +kernel
theorem dX10_greatest_21 : decode cX10_greatest 21 = .ok (.goto (-18), 3) := by decide +kernel
theorem dX10_greatest_24 : decode cX10_greatest 24 = .ok (.iconst 0, 1) := by decide +kernel
theorem dX10_greatest_25 : decode cX10_greatest 25 = .ok (.istore 4, 2) := by decide +kernel
theorem dX10_greatest_27 : decode cX10_greatest 27 = .ok (.iload 4, 2) := by decide +kernel
theorem dX10_greatest_29 : decode cX10_greatest 29 = .ok (.aload_n 0, 1) := by decide +kernel
theorem dX10_greatest_30 : decode cX10_greatest 30 = .ok (.getfield 253, 3) := by decide +kernel
theorem dX10_greatest_33 : decode cX10_greatest 33 = .ok (.if_icmp .ge 87, 3) := by decide +kernel
theorem dX10_greatest_36 : decode cX10_greatest 36 = .ok (.aload_n 0, 1) := by decide +kernel
theorem dX10_greatest_37 : decode cX10_greatest 37 = .ok (.aload_n 0, 1) := by decide +kernel
theorem dX10_greatest_38 : decode cX10_greatest 38 = .ok (.getfield 57, 3) := by decide +kernel
theorem dX10_greatest_41 : decode cX10_greatest 41 = .ok (.bipush 8, 2) := by decide +kernel
theorem dX10_greatest_43 : decode cX10_greatest 43 = .ok (.iload 4, 2) := by decide +kernel
theorem dX10_greatest_45 : decode cX10_greatest 45 = .ok (.imul, 1) := by decide +kernel
theorem dX10_greatest_46 : decode cX10_greatest 46 = .ok (.iload_n 2, 1) := by decide +kernel
theorem dX10_greatest_47 : decode cX10_greatest 47 = .ok (.iload_n 3, 1) := by decide +kernel
theorem dX10_greatest_48 : decode cX10_greatest 48 = .ok (.invokevirtual 262, 3) := by decide +kernel
theorem dX10_greatest_51 : decode cX10_greatest 51 = .ok (.istore 5, 2) := by decide +kernel
theorem dX10_greatest_53 : decode cX10_greatest 53 = .ok (.iload 5, 2) := by decide +kernel
theorem dX10_greatest_55 : decode cX10_greatest 55 = .ok (.bipush (-4), 2) := by decide +kernel
theorem dX10_greatest_57 : decode cX10_greatest 57 = .ok (.if_icmp .eq 57, 3) := by decide +kernel
theorem dX10_greatest_60 : decode cX10_greatest 60 = .ok (.aload_n 0, 1) := by decide +kernel
theorem dX10_greatest_61 : decode cX10_greatest 61 = .ok (.getfield 57, 3) := by decide +kernel
theorem dX10_greatest_64 : decode cX10_greatest 64 = .ok (.bipush 8, 2) := by decide +kernel
theorem dX10_greatest_66 : decode cX10_greatest 66 = .ok (.iload 4, 2) := by decide +kernel
theorem dX10_greatest_68 : decode cX10_greatest 68 = .ok (.imul, 1) := by decide +kernel
theorem dX10_greatest_69 : decode cX10_greatest 69 = .ok (.aload_n 0, 1) := by decide +kernel
theorem dX10_greatest_70 : decode cX10_greatest 70 = .ok (.getfield 7, 3) := by decide +kernel
theorem dX10_greatest_73 : decode cX10_greatest 73 = .ok (.iconst 0, 1) := by decide +kernel
theorem dX10_greatest_74 : decode cX10_greatest 74 = .ok (.iaload, 1) := by decide +kernel
theorem dX10_greatest_75 : decode cX10_greatest 75 = .ok (.iload 5, 2) := by decide +kernel
theorem dX10_greatest_77 : decode cX10_greatest 77 = .ok (.bipush 8, 2) := by decide +kernel
theorem dX10_greatest_79 : decode cX10_greatest 79 = .ok (.idiv, 1) := by decide +kernel
theorem dX10_greatest_80 : decode cX10_greatest 80 = .ok (.iload 5, 2) := by decide +kernel
theorem dX10_greatest_82 : decode cX10_greatest 82 = .ok (.bipush 8, 2) := by decide +kernel
theorem dX10_greatest_84 : decode cX10_greatest 84 = .ok (.irem, 1) := by decide +kernel
theorem dX10_greatest_85 : decode cX10_greatest 85 = .ok (.iload_n 1, 1) := by decide +kernel
theorem dX10_greatest_86 : decode cX10_greatest 86 = .ok (.invokestatic 155, 3) := by decide +kernel
theorem dX10_greatest_89 : decode cX10_greatest 89 = .ok (.istore 6, 2) := by decide +kernel
theorem dX10_greatest_91 : decode cX10_greatest 91 = .ok (.aload_n 0, 1) := by decide +kernel
theorem dX10_greatest_92 : decode cX10_greatest 92 = .ok (.getfield 72, 3) := by decide +kernel
theorem dX10_greatest_95 : decode cX10_greatest 95 = .ok (.iload 6, 2) := by decide +kernel
theorem dX10_greatest_97 : decode cX10_greatest 97 = .ok (.bipush (-4), 2) := by decide +kernel
theorem dX10_greatest_99 : decode cX10_greatest 99 = .ok (.if_icmp .ne 8, 3) := by decide +kernel
theorem dX10_greatest_102 : decode cX10_greatest 102 = .ok (.bipush 8, 2) := by decide +kernel
theorem dX10_greatest_104 : decode cX10_greatest 104 = .ok (.goto 5, 3) := by decide +kernel
theorem dX10_greatest_107 : decode cX10_greatest 107 = .ok (.iload 6, 2) := by decide +kernel
theorem dX10_greatest_109 : decode cX10_greatest 109 = .ok (.dup2, 1) := by decide +kernel
theorem dX10_greatest_110 : decode cX10_greatest 110 = .ok (.iaload, 1) := by decide +kernel
theorem dX10_greatest_111 : decode cX10_greatest 111 = .ok (.iconst 1, 1) := by decide +kernel
theorem dX10_greatest_112 : decode cX10_greatest 112 = .ok (.iadd, 1) := by decide +kernel
theorem dX10_greatest_113 : decode cX10_greatest 113 = .ok (.iastore, 1) := by decide +kernel
theorem dX10_greatest_114 : decode cX10_greatest 114 = .ok (.iinc 4 1, 3) := by decide +kernel
theorem dX10_greatest_117 : decode cX10_greatest 117 = .ok (.goto (-90), 3) := by decide +kernel
theorem dX10_greatest_120 : decode cX10_greatest 120 = .ok (.iconst 0, 1) := by decide +kernel
theorem dX10_greatest_121 : decode cX10_greatest 121 = .ok (.istore 4, 2) := by decide +kernel
theorem dX10_greatest_123 : decode cX10_greatest 123 = .ok (.iconst 0, 1) := by decide +kernel
theorem dX10_greatest_124 : decode cX10_greatest 124 = .ok (.istore 5, 2) := by decide +kernel
theorem dX10_greatest_126 : decode cX10_greatest 126 = .ok (.iload 5, 2) := by decide +kernel
theorem dX10_greatest_128 : decode cX10_greatest 128 = .ok (.bipush 9, 2) := by decide +kernel
theorem dX10_greatest_130 : decode cX10_greatest 130 = .ok (.if_icmp .ge 35, 3) := by decide +kernel
theorem dX10_greatest_133 : decode cX10_greatest 133 = .ok (.aload_n 0, 1) := by decide +kernel
theorem dX10_greatest_134 : decode cX10_greatest 134 = .ok (.getfield 72, 3) := by decide +kernel
theorem dX10_greatest_137 : decode cX10_greatest 137 = .ok (.iload 5, 2) := by decide +kernel
theorem dX10_greatest_139 : decode cX10_greatest 139 = .ok (.iaload, 1) := by decide +kernel
theorem dX10_greatest_140 : decode cX10_greatest 140 = .ok (.iload 4, 2) := by decide +kernel
theorem dX10_greatest_142 : decode cX10_greatest 142 = .ok (.if_icmp .le 13, 3) := by decide +kernel
theorem dX10_greatest_145 : decode cX10_greatest 145 = .ok (.aload_n 0, 1) := by decide +kernel
theorem dX10_greatest_146 : decode cX10_greatest 146 = .ok (.getfield 72, 3) := by decide +kernel
theorem dX10_greatest_149 : decode cX10_greatest 149 = .ok (.iload 5, 2) := by decide +kernel
theorem dX10_greatest_151 : decode cX10_greatest 151 = .ok (.iaload, 1) := by decide +kernel
theorem dX10_greatest_152 : decode cX10_greatest 152 = .ok (.goto 5, 3) := by decide +kernel
theorem dX10_greatest_155 : decode cX10_greatest 155 = .ok (.iload 4, 2) := by decide +kernel
theorem dX10_greatest_157 : decode cX10_greatest 157 = .ok (.istore 4, 2) := by decide +kernel
theorem dX10_greatest_159 : decode cX10_greatest 159 = .ok (.iinc 5 1, 3) := by decide +kernel
theorem dX10_greatest_162 : decode cX10_greatest 162 = .ok (.goto (-36), 3) := by decide +kernel
theorem dX10_greatest_165 : decode cX10_greatest 165 = .ok (.iload 4, 2) := by decide +kernel
theorem dX10_greatest_167 : decode cX10_greatest 167 = .ok (.ireturn, 1) := by decide +kernel
theorem dX10_foldings_0 : decode cX10_foldings 0 = .ok (.aload_n 0, 1) := by decide +kernel
theorem dX10_foldings_1 : decode cX10_foldings 1 = .ok (.invokevirtual 159, 3) := by decide +kernel
theorem dX10_foldings_4 : decode cX10_foldings 4 = .ok (.ifCond .eq 48, 3) := by decide +kernel
theorem dX10_foldings_7 : decode cX10_foldings 7 = .ok (.iload_n 1, 1) := by decide +kernel
theorem dX10_foldings_8 : decode cX10_foldings 8 = .ok (.invokestatic 235, 3) := by decide +kernel
theorem dX10_foldings_11 : decode cX10_foldings 11 = .ok (.ifCond .eq 41, 3) := by decide +kernel
theorem dX10_foldings_14 : decode cX10_foldings 14 = .ok (.iload_n 2, 1) := by decide +kernel
theorem dX10_foldings_15 : decode cX10_foldings 15 = .ok (.i2l, 1) := by decide +kernel
theorem dX10_foldings_16 : decode cX10_foldings 16 = .ok (.lconst 0, 1) := by decide +kernel
theorem dX10_foldings_17 : decode cX10_foldings 17 = .ok (.ldc2_w 233, 3) := by decide +kernel
theorem dX10_foldings_20 : decode cX10_foldings 20 = .ok (.invokestatic 77, 3) := by decide +kernel
theorem dX10_foldings_23 : decode cX10_foldings 23 = .ok (.ifCond .eq 29, 3) := by decide +kernel
theorem dX10_foldings_26 : decode cX10_foldings 26 = .ok (.iload 4, 2) := by decide +kernel
theorem dX10_foldings_28 : decode cX10_foldings 28 = .ok (.i2l, 1) := by decide +kernel
theorem dX10_foldings_29 : decode cX10_foldings 29 = .ok (.lconst 0, 1) := by decide +kernel
theorem dX10_foldings_30 : decode cX10_foldings 30 = .ok (.ldc2_w 231, 3) := by decide +kernel
theorem dX10_foldings_33 : decode cX10_foldings 33 = .ok (.invokestatic 77, 3) := by decide +kernel
theorem dX10_foldings_36 : decode cX10_foldings 36 = .ok (.ifCond .eq 16, 3) := by decide +kernel
theorem dX10_foldings_39 : decode cX10_foldings 39 = .ok (.iload 5, 2) := by decide +kernel
theorem dX10_foldings_41 : decode cX10_foldings 41 = .ok (.i2l, 1) := by decide +kernel
theorem dX10_foldings_42 : decode cX10_foldings 42 = .ok (.lconst 0, 1) := by decide +kernel
theorem dX10_foldings_43 : decode cX10_foldings 43 = .ok (.ldc2_w 260, 3) := by decide +kernel
theorem dX10_foldings_46 : decode cX10_foldings 46 = .ok (.invokestatic 77, 3) := by decide +kernel
theorem dX10_foldings_49 : decode cX10_foldings 49 = .ok (.ifCond .ne 5, 3) := by decide +kernel
theorem dX10_foldings_52 : decode cX10_foldings 52 = .ok (.iconst (-1), 1) := by decide +kernel
theorem dX10_foldings_53 : decode cX10_foldings 53 = .ok (.ireturn, 1) := by decide +kernel
theorem dX10_foldings_54 : decode cX10_foldings 54 = .ok (.aload_n 0, 1) := by decide +kernel
theorem dX10_foldings_55 : decode cX10_foldings 55 = .ok (.iload_n 1, 1) := by decide +kernel
theorem dX10_foldings_56 : decode cX10_foldings 56 = .ok (.iload_n 2, 1) := by decide +kernel
theorem dX10_foldings_57 : decode cX10_foldings 57 = .ok (.iload_n 3, 1) := by decide +kernel
theorem dX10_foldings_58 : decode cX10_foldings 58 = .ok (.iconst 2, 1) := by decide +kernel
theorem dX10_foldings_59 : decode cX10_foldings 59 = .ok (.iload 4, 2) := by decide +kernel
theorem dX10_foldings_61 : decode cX10_foldings 61 = .ok (.imul, 1) := by decide +kernel
theorem dX10_foldings_62 : decode cX10_foldings 62 = .ok (.iconst 2, 1) := by decide +kernel
theorem dX10_foldings_63 : decode cX10_foldings 63 = .ok (.iadd, 1) := by decide +kernel
theorem dX10_foldings_64 : decode cX10_foldings 64 = .ok (.invokevirtual 240, 3) := by decide +kernel
theorem dX10_foldings_67 : decode cX10_foldings 67 = .ok (.istore 6, 2) := by decide +kernel
theorem dX10_foldings_69 : decode cX10_foldings 69 = .ok (.iload 6, 2) := by decide +kernel
theorem dX10_foldings_71 : decode cX10_foldings 71 = .ok (.ifCond .ge 6, 3) := by decide +kernel
theorem dX10_foldings_74 : decode cX10_foldings 74 = .ok (.iload 6, 2) := by decide +kernel
theorem dX10_foldings_76 : decode cX10_foldings 76 = .ok (.ireturn, 1) := by decide +kernel
theorem dX10_foldings_77 : decode cX10_foldings 77 = .ok (.bipush 24, 2) := by decide +kernel
theorem dX10_foldings_79 : decode cX10_foldings 79 = .ok (.iload_n 1, 1) := by decide +kernel
theorem dX10_foldings_80 : decode cX10_foldings 80 = .ok (.imul, 1) := by decide +kernel
theorem dX10_foldings_81 : decode cX10_foldings 81 = .ok (.iload_n 3, 1) := by decide +kernel
theorem dX10_foldings_82 : decode cX10_foldings 82 = .ok (.iadd, 1) := by decide +kernel
theorem dX10_foldings_83 : decode cX10_foldings 83 = .ok (.istore 7, 2) := by decide +kernel
theorem dX10_foldings_85 : decode cX10_foldings 85 = .ok (.aload_n 0, 1) := by decide +kernel
theorem dX10_foldings_86 : decode cX10_foldings 86 = .ok (.iload 7, 2) := by decide +kernel
theorem dX10_foldings_88 : decode cX10_foldings 88 = .ok (.iload 4, 2) := by decide +kernel
theorem dX10_foldings_90 : decode cX10_foldings 90 = .ok (.invokevirtual 266, 3) := by decide +kernel
theorem dX10_foldings_93 : decode cX10_foldings 93 = .ok (.ifCond .ge 6, 3) := by decide +kernel
theorem dX10_foldings_96 : decode cX10_foldings 96 = .ok (.bipush (-2), 2) := by decide +kernel
theorem dX10_foldings_98 : decode cX10_foldings 98 = .ok (.ireturn, 1) := by decide +kernel
theorem dX10_foldings_99 : decode cX10_foldings 99 = .ok (.iload 5, 2) := by decide +kernel
theorem dX10_foldings_101 : decode cX10_foldings 101 = .ok (.iconst 1, 1) := by decide +kernel
theorem dX10_foldings_102 : decode cX10_foldings 102 = .ok (.if_icmp .ne 28, 3) := by decide +kernel
theorem dX10_foldings_105 : decode cX10_foldings 105 = .ok (.aload_n 0, 1) := by decide +kernel
theorem dX10_foldings_106 : decode cX10_foldings 106 = .ok (.aload_n 0, 1) := by decide +kernel
theorem dX10_foldings_107 : decode cX10_foldings 107 = .ok (.getfield 7, 3) := by decide +kernel
theorem dX10_foldings_110 : decode cX10_foldings 110 = .ok (.bipush 44, 2) := by decide +kernel
theorem dX10_foldings_112 : decode cX10_foldings 112 = .ok (.iload 7, 2) := by decide +kernel
theorem dX10_foldings_114 : decode cX10_foldings 114 = .ok (.iload 4, 2) := by decide +kernel
theorem dX10_foldings_116 : decode cX10_foldings 116 = .ok (.invokevirtual 262, 3) := by decide +kernel
theorem dX10_foldings_119 : decode cX10_foldings 119 = .ok (.bipush (-4), 2) := by decide +kernel
theorem dX10_foldings_121 : decode cX10_foldings 121 = .ok (.if_icmp .ne 7, 3) := by decide +kernel
theorem dX10_foldings_124 : decode cX10_foldings 124 = .ok (.iconst 0, 1) := by decide +kernel
theorem dX10_foldings_125 : decode cX10_foldings 125 = .ok (.goto 4, 3) := by decide +kernel
theorem dX10_foldings_128 : decode cX10_foldings 128 = .ok (.iconst 1, 1) := by decide +kernel
theorem dX10_foldings_129 : decode cX10_foldings 129 = .ok (.ireturn, 1) := by decide +kernel
theorem dX10_foldings_130 : decode cX10_foldings 130 = .ok (.aload_n 0, 1) := by decide +kernel
theorem dX10_foldings_131 : decode cX10_foldings 131 = .ok (.aload_n 0, 1) := by decide +kernel
theorem dX10_foldings_132 : decode cX10_foldings 132 = .ok (.getfield 7, 3) := by decide +kernel
theorem dX10_foldings_135 : decode cX10_foldings 135 = .ok (.iconst 0, 1) := by decide +kernel
theorem dX10_foldings_136 : decode cX10_foldings 136 = .ok (.iaload, 1) := by decide +kernel
theorem dX10_foldings_137 : decode cX10_foldings 137 = .ok (.invokevirtual 269, 3) := by decide +kernel
theorem dX10_foldings_140 : decode cX10_foldings 140 = .ok (.iconst 0, 1) := by decide +kernel
theorem dX10_foldings_141 : decode cX10_foldings 141 = .ok (.istore 8, 2) := by decide +kernel
theorem dX10_foldings_143 : decode cX10_foldings 143 = .ok (.iconst 0, 1) := by decide +kernel
theorem dX10_foldings_144 : decode cX10_foldings 144 = .ok (.istore 9, 2) := by decide +kernel
theorem dX10_foldings_146 : decode cX10_foldings 146 = .ok (.iload 9, 2) := by decide +kernel
theorem dX10_foldings_148 : decode cX10_foldings 148 = .ok (.aload_n 0, 1) := by decide +kernel
theorem dX10_foldings_149 : decode cX10_foldings 149 = .ok (.getfield 253, 3) := by decide +kernel
theorem dX10_foldings_152 : decode cX10_foldings 152 = .ok (.if_icmp .ge 41, 3) := by decide +kernel
theorem dX10_foldings_155 : decode cX10_foldings 155 = .ok (.iload 8, 2) := by decide +kernel
theorem dX10_foldings_157 : decode cX10_foldings 157 = .ok (.aload_n 0, 1) := by decide +kernel
theorem dX10_foldings_158 : decode cX10_foldings 158 = .ok (.aload_n 0, 1) := by decide +kernel
theorem dX10_foldings_159 : decode cX10_foldings 159 = .ok (.getfield 57, 3) := by decide +kernel
theorem dX10_foldings_162 : decode cX10_foldings 162 = .ok (.bipush 8, 2) := by decide +kernel
theorem dX10_foldings_164 : decode cX10_foldings 164 = .ok (.iload 9, 2) := by decide +kernel
theorem dX10_foldings_166 : decode cX10_foldings 166 = .ok (.imul, 1) := by decide +kernel
theorem dX10_foldings_167 : decode cX10_foldings 167 = .ok (.iload 7, 2) := by decide +kernel
theorem dX10_foldings_169 : decode cX10_foldings 169 = .ok (.iload 4, 2) := by decide +kernel
theorem dX10_foldings_171 : decode cX10_foldings 171 = .ok (.invokevirtual 262, 3) := by decide +kernel
theorem dX10_foldings_174 : decode cX10_foldings 174 = .ok (.bipush (-4), 2) := by decide +kernel
theorem dX10_foldings_176 : decode cX10_foldings 176 = .ok (.if_icmp .ne 7, 3) := by decide +kernel
theorem dX10_foldings_179 : decode cX10_foldings 179 = .ok (.iconst 0, 1) := by decide +kernel
theorem dX10_foldings_180 : decode cX10_foldings 180 = .ok (.goto 4, 3) := by decide +kernel
theorem dX10_foldings_183 : decode cX10_foldings 183 = .ok (.iconst 1, 1) := by decide +kernel
theorem dX10_foldings_184 : decode cX10_foldings 184 = .ok (.iadd, 1) := by decide +kernel
theorem dX10_foldings_185 : decode cX10_foldings 185 = .ok (.istore 8, 2) := by decide +kernel
theorem dX10_foldings_187 : decode cX10_foldings 187 = .ok (.iinc 9 1, 3) := by decide +kernel
theorem dX10_foldings_190 : decode cX10_foldings 190 = .ok (.goto (-44), 3) := by decide +kernel
theorem dX10_foldings_193 : decode cX10_foldings 193 = .ok (.iload 5, 2) := by decide +kernel
theorem dX10_foldings_195 : decode cX10_foldings 195 = .ok (.ifCond .eq 8, 3) := by decide +kernel
theorem dX10_foldings_198 : decode cX10_foldings 198 = .ok (.iload 8, 2) := by decide +kernel
theorem dX10_foldings_200 : decode cX10_foldings 200 = .ok (.ifCond .ne 16, 3) := by decide +kernel
theorem dX10_foldings_203 : decode cX10_foldings 203 = .ok (.iload 5, 2) := by decide +kernel
theorem dX10_foldings_205 : decode cX10_foldings 205 = .ok (.ifCond .ne 8, 3) := by decide +kernel
theorem dX10_foldings_208 : decode cX10_foldings 208 = .ok (.iload 8, 2) := by decide +kernel
theorem dX10_foldings_210 : decode cX10_foldings 210 = .ok (.goto 5, 3) := by decide +kernel
theorem dX10_foldings_213 : decode cX10_foldings 213 = .ok (.bipush (-4), 2) := by decide +kernel
theorem dX10_foldings_215 : decode cX10_foldings 215 = .ok (.ireturn, 1) := by decide +kernel
theorem dX10_foldings_216 : decode cX10_foldings 216 = .ok (.aload_n 0, 1) := by decide +kernel
theorem dX10_foldings_217 : decode cX10_foldings 217 = .ok (.iconst 1, 1) := by decide +kernel
theorem dX10_foldings_218 : decode cX10_foldings 218 = .ok (.iload 7, 2) := by decide +kernel
theorem dX10_foldings_220 : decode cX10_foldings 220 = .ok (.iload 4, 2) := by decide +kernel
theorem dX10_foldings_222 : decode cX10_foldings 222 = .ok (.invokevirtual 272, 3) := by decide +kernel
theorem dX10_foldings_225 : decode cX10_foldings 225 = .ok (.aload_n 0, 1) := by decide +kernel
theorem dX10_foldings_226 : decode cX10_foldings 226 = .ok (.iconst 0, 1) := by decide +kernel
theorem dX10_foldings_227 : decode cX10_foldings 227 = .ok (.iload 7, 2) := by decide +kernel
theorem dX10_foldings_229 : decode cX10_foldings 229 = .ok (.iload 4, 2) := by decide +kernel
theorem dX10_foldings_231 : decode cX10_foldings 231 = .ok (.invokevirtual 272, 3) := by decide +kernel
theorem dX10_foldings_234 : decode cX10_foldings 234 = .ok (.if_icmp .ge 7, 3) := by decide +kernel
theorem dX10_foldings_237 : decode cX10_foldings 237 = .ok (.iconst 1, 1) := by decide +kernel
theorem dX10_foldings_238 : decode cX10_foldings 238 = .ok (.goto 4, 3) := by decide +kernel
theorem dX10_foldings_241 : decode cX10_foldings 241 = .ok (.iconst 0, 1) := by decide +kernel
theorem dX10_foldings_242 : decode cX10_foldings 242 = .ok (.ireturn, 1) := by decide +kernel
theorem dX10_shownOf_0 : decode cX10_shownOf 0 = .ok (.lload_n 0, 1) := by decide +kernel
theorem dX10_shownOf_1 : decode cX10_shownOf 1 = .ok (.l2i, 1) := by decide +kernel
theorem dX10_shownOf_2 : decode cX10_shownOf 2 = .ok (.ireturn, 1) := by decide +kernel
theorem dX10_kinds_0 : decode cX10_kinds 0 = .ok (.iload_n 1, 1) := by decide +kernel
theorem dX10_kinds_1 : decode cX10_kinds 1 = .ok (.invokestatic 235, 3) := by decide +kernel
theorem dX10_kinds_4 : decode cX10_kinds 4 = .ok (.ifCond .eq 39, 3) := by decide +kernel
theorem dX10_kinds_7 : decode cX10_kinds 7 = .ok (.iload_n 2, 1) := by decide +kernel
theorem dX10_kinds_8 : decode cX10_kinds 8 = .ok (.i2l, 1) := by decide +kernel
theorem dX10_kinds_9 : decode cX10_kinds 9 = .ok (.lconst 0, 1) := by decide +kernel
theorem dX10_kinds_10 : decode cX10_kinds 10 = .ok (.ldc2_w 233, 3) := by decide +kernel
theorem dX10_kinds_13 : decode cX10_kinds 13 = .ok (.invokestatic 77, 3) := by decide +kernel
theorem dX10_kinds_16 : decode cX10_kinds 16 = .ok (.ifCond .eq 27, 3) := by decide +kernel
theorem dX10_kinds_19 : decode cX10_kinds 19 = .ok (.iload 4, 2) := by decide +kernel
theorem dX10_kinds_21 : decode cX10_kinds 21 = .ok (.i2l, 1) := by decide +kernel
theorem dX10_kinds_22 : decode cX10_kinds 22 = .ok (.lconst 1, 1) := by decide +kernel
theorem dX10_kinds_23 : decode cX10_kinds 23 = .ok (.ldc2_w 199, 3) := by decide +kernel
theorem dX10_kinds_26 : decode cX10_kinds 26 = .ok (.invokestatic 77, 3) := by decide +kernel
theorem dX10_kinds_29 : decode cX10_kinds 29 = .ok (.ifCond .eq 14, 3) := by decide +kernel
theorem dX10_kinds_32 : decode cX10_kinds 32 = .ok (.iload 5, 2) := by decide +kernel
theorem dX10_kinds_34 : decode cX10_kinds 34 = .ok (.i2l, 1) := by decide +kernel
theorem dX10_kinds_35 : decode cX10_kinds 35 = .ok (.lconst 0, 1) := by decide +kernel
theorem dX10_kinds_36 : decode cX10_kinds 36 = .ok (.lconst 1, 1) := by decide +kernel
theorem dX10_kinds_37 : decode cX10_kinds 37 = .ok (.invokestatic 77, 3) := by decide +kernel
theorem dX10_kinds_40 : decode cX10_kinds 40 = .ok (.ifCond .ne 5, 3) := by decide +kernel
theorem dX10_kinds_43 : decode cX10_kinds 43 = .ok (.iconst (-1), 1) := by decide +kernel
theorem dX10_kinds_44 : decode cX10_kinds 44 = .ok (.ireturn, 1) := by decide +kernel
theorem dX10_kinds_45 : decode cX10_kinds 45 = .ok (.aload_n 0, 1) := by decide +kernel
theorem dX10_kinds_46 : decode cX10_kinds 46 = .ok (.iload_n 1, 1) := by decide +kernel
theorem dX10_kinds_47 : decode cX10_kinds 47 = .ok (.iload_n 2, 1) := by decide +kernel
theorem dX10_kinds_48 : decode cX10_kinds 48 = .ok (.iload_n 3, 1) := by decide +kernel
theorem dX10_kinds_49 : decode cX10_kinds 49 = .ok (.iconst 2, 1) := by decide +kernel
theorem dX10_kinds_50 : decode cX10_kinds 50 = .ok (.iload 4, 2) := by decide +kernel
theorem dX10_kinds_52 : decode cX10_kinds 52 = .ok (.imul, 1) := by decide +kernel
theorem dX10_kinds_53 : decode cX10_kinds 53 = .ok (.invokevirtual 240, 3) := by decide +kernel
theorem dX10_kinds_56 : decode cX10_kinds 56 = .ok (.istore 6, 2) := by decide +kernel
theorem dX10_kinds_58 : decode cX10_kinds 58 = .ok (.iload 6, 2) := by decide +kernel
theorem dX10_kinds_60 : decode cX10_kinds 60 = .ok (.ifCond .ge 6, 3) := by decide +kernel
theorem dX10_kinds_63 : decode cX10_kinds 63 = .ok (.iload 6, 2) := by decide +kernel
theorem dX10_kinds_65 : decode cX10_kinds 65 = .ok (.ireturn, 1) := by decide +kernel
theorem dX10_kinds_66 : decode cX10_kinds 66 = .ok (.bipush 24, 2) := by decide +kernel
theorem dX10_kinds_68 : decode cX10_kinds 68 = .ok (.iload_n 1, 1) := by decide +kernel
theorem dX10_kinds_69 : decode cX10_kinds 69 = .ok (.imul, 1) := by decide +kernel
theorem dX10_kinds_70 : decode cX10_kinds 70 = .ok (.iload_n 3, 1) := by decide +kernel
theorem dX10_kinds_71 : decode cX10_kinds 71 = .ok (.iadd, 1) := by decide +kernel
theorem dX10_kinds_72 : decode cX10_kinds 72 = .ok (.istore 7, 2) := by decide +kernel
theorem dX10_kinds_74 : decode cX10_kinds 74 = .ok (.iconst 0, 1) := by decide +kernel
theorem dX10_kinds_75 : decode cX10_kinds 75 = .ok (.istore 8, 2) := by decide +kernel
theorem dX10_kinds_77 : decode cX10_kinds 77 = .ok (.iload 8, 2) := by decide +kernel
theorem dX10_kinds_79 : decode cX10_kinds 79 = .ok (.iload 4, 2) := by decide +kernel
theorem dX10_kinds_81 : decode cX10_kinds 81 = .ok (.if_icmp .ge 34, 3) := by decide +kernel
theorem dX10_kinds_84 : decode cX10_kinds 84 = .ok (.aload_n 0, 1) := by decide +kernel
theorem dX10_kinds_85 : decode cX10_kinds 85 = .ok (.getfield 50, 3) := by decide +kernel
theorem dX10_kinds_88 : decode cX10_kinds 88 = .ok (.iload 7, 2) := by decide +kernel
theorem dX10_kinds_90 : decode cX10_kinds 90 = .ok (.iconst 2, 1) := by decide +kernel
theorem dX10_kinds_91 : decode cX10_kinds 91 = .ok (.iload 8, 2) := by decide +kernel
theorem dX10_kinds_93 : decode cX10_kinds 93 = .ok (.imul, 1) := by decide +kernel
theorem dX10_kinds_94 : decode cX10_kinds 94 = .ok (.iadd, 1) := by decide +kernel
theorem dX10_kinds_95 : decode cX10_kinds 95 = .ok (.laload, 1) := by decide +kernel
theorem dX10_kinds_96 : decode cX10_kinds 96 = .ok (.lconst 0, 1) := by decide +kernel
theorem dX10_kinds_97 : decode cX10_kinds 97 = .ok (.ldc2_w 275, 3) := by decide +kernel
theorem dX10_kinds_100 : decode cX10_kinds 100 = .ok (.invokestatic 77, 3) := by decide +kernel
theorem dX10_kinds_103 : decode cX10_kinds 103 = .ok (.ifCond .ne 6, 3) := by decide +kernel
theorem dX10_kinds_106 : decode cX10_kinds 106 = .ok (.bipush (-2), 2) := by decide +kernel
theorem dX10_kinds_108 : decode cX10_kinds 108 = .ok (.ireturn, 1) := by decide +kernel
theorem dX10_kinds_109 : decode cX10_kinds 109 = .ok (.iinc 8 1, 3) := by decide +kernel
theorem dX10_kinds_112 : decode cX10_kinds 112 = .ok (.goto (-35), 3) := by decide +kernel
theorem dX10_kinds_115 : decode cX10_kinds 115 = .ok (.iconst 0, 1) := by decide +kernel
theorem dX10_kinds_116 : decode cX10_kinds 116 = .ok (.istore 8, 2) := by decide +kernel
theorem dX10_kinds_118 : decode cX10_kinds 118 = .ok (.iconst 1, 1) := by decide +kernel
theorem dX10_kinds_119 : decode cX10_kinds 119 = .ok (.istore 9, 2) := by decide +kernel
theorem dX10_kinds_121 : decode cX10_kinds 121 = .ok (.iload 9, 2) := by decide +kernel
theorem dX10_kinds_123 : decode cX10_kinds 123 = .ok (.bipush 6, 2) := by decide +kernel
theorem dX10_kinds_125 : decode cX10_kinds 125 = .ok (.if_icmp .ge 97, 3) := by decide +kernel
theorem dX10_kinds_128 : decode cX10_kinds 128 = .ok (.iconst 1, 1) := by decide +kernel
theorem dX10_kinds_129 : decode cX10_kinds 129 = .ok (.istore 10, 2) := by decide +kernel
theorem dX10_kinds_131 : decode cX10_kinds 131 = .ok (.iconst 0, 1) := by decide +kernel
theorem dX10_kinds_132 : decode cX10_kinds 132 = .ok (.istore 11, 2) := by decide +kernel
theorem dX10_kinds_134 : decode cX10_kinds 134 = .ok (.iload 11, 2) := by decide +kernel
theorem dX10_kinds_136 : decode cX10_kinds 136 = .ok (.iload 4, 2) := by decide +kernel
theorem dX10_kinds_138 : decode cX10_kinds 138 = .ok (.if_icmp .ge 60, 3) := by decide +kernel
theorem dX10_kinds_141 : decode cX10_kinds 141 = .ok (.iload 10, 2) := by decide +kernel
theorem dX10_kinds_143 : decode cX10_kinds 143 = .ok (.ifCond .eq 46, 3) := by decide +kernel
theorem dX10_kinds_146 : decode cX10_kinds 146 = .ok (.iload 9, 2) := by decide +kernel
theorem dX10_kinds_148 : decode cX10_kinds 148 = .ok (.aload_n 0, 1) := by decide +kernel
theorem dX10_kinds_149 : decode cX10_kinds 149 = .ok (.getfield 50, 3) := by decide +kernel
theorem dX10_kinds_152 : decode cX10_kinds 152 = .ok (.iload 7, 2) := by decide +kernel
theorem dX10_kinds_154 : decode cX10_kinds 154 = .ok (.iconst 2, 1) := by decide +kernel
theorem dX10_kinds_155 : decode cX10_kinds 155 = .ok (.iload 11, 2) := by decide +kernel
theorem dX10_kinds_157 : decode cX10_kinds 157 = .ok (.imul, 1) := by decide +kernel
theorem dX10_kinds_158 : decode cX10_kinds 158 = .ok (.iadd, 1) := by decide +kernel
theorem dX10_kinds_159 : decode cX10_kinds 159 = .ok (.laload, 1) := by decide +kernel
theorem dX10_kinds_160 : decode cX10_kinds 160 = .ok (.invokestatic 277, 3) := by decide +kernel
theorem dX10_kinds_163 : decode cX10_kinds 163 = .ok (.invokestatic 133, 3) := by decide +kernel
theorem dX10_kinds_166 : decode cX10_kinds 166 = .ok (.i2l, 1) := by decide +kernel
theorem dX10_kinds_167 : decode cX10_kinds 167 = .ok (.aload_n 0, 1) := by decide +kernel
theorem dX10_kinds_168 : decode cX10_kinds 168 = .ok (.getfield 50, 3) := by decide +kernel
theorem dX10_kinds_171 : decode cX10_kinds 171 = .ok (.iload 7, 2) := by decide +kernel
theorem dX10_kinds_173 : decode cX10_kinds 173 = .ok (.iconst 2, 1) := by decide +kernel
theorem dX10_kinds_174 : decode cX10_kinds 174 = .ok (.iload 11, 2) := by decide +kernel
theorem dX10_kinds_176 : decode cX10_kinds 176 = .ok (.imul, 1) := by decide +kernel
theorem dX10_kinds_177 : decode cX10_kinds 177 = .ok (.iadd, 1) := by decide +kernel
theorem dX10_kinds_178 : decode cX10_kinds 178 = .ok (.iconst 1, 1) := by decide +kernel
theorem dX10_kinds_179 : decode cX10_kinds 179 = .ok (.iadd, 1) := by decide +kernel
theorem dX10_kinds_180 : decode cX10_kinds 180 = .ok (.laload, 1) := by decide +kernel
theorem dX10_kinds_181 : decode cX10_kinds 181 = .ok (.lcmp, 1) := by decide +kernel
theorem dX10_kinds_182 : decode cX10_kinds 182 = .ok (.ifCond .ne 7, 3) := by decide +kernel
theorem dX10_kinds_185 : decode cX10_kinds 185 = .ok (.iconst 1, 1) := by decide +kernel
theorem dX10_kinds_186 : decode cX10_kinds 186 = .ok (.goto 4, 3) := by decide +kernel
theorem dX10_kinds_189 : decode cX10_kinds 189 = .ok (.iconst 0, 1) := by decide +kernel
theorem dX10_kinds_190 : decode cX10_kinds 190 = .ok (.istore 10, 2) := by decide +kernel
theorem dX10_kinds_192 : decode cX10_kinds 192 = .ok (.iinc 11 1, 3) := by decide +kernel
theorem dX10_kinds_195 : decode cX10_kinds 195 = .ok (.goto (-61), 3) := by decide +kernel
theorem dX10_kinds_198 : decode cX10_kinds 198 = .ok (.iload 8, 2) := by decide +kernel
theorem dX10_kinds_200 : decode cX10_kinds 200 = .ok (.iload 10, 2) := by decide +kernel
theorem dX10_kinds_202 : decode cX10_kinds 202 = .ok (.ifCond .eq 10, 3) := by decide +kernel
theorem dX10_kinds_205 : decode cX10_kinds 205 = .ok (.iconst 1, 1) := by decide +kernel
theorem dX10_kinds_206 : decode cX10_kinds 206 = .ok (.iload 9, 2) := by decide +kernel
theorem dX10_kinds_208 : decode cX10_kinds 208 = .ok (.ishl, 1) := by decide +kernel
theorem dX10_kinds_209 : decode cX10_kinds 209 = .ok (.goto 4, 3) := by decide +kernel
theorem dX10_kinds_212 : decode cX10_kinds 212 = .ok (.iconst 0, 1) := by decide +kernel
theorem dX10_kinds_213 : decode cX10_kinds 213 = .ok (.ior, 1) := by decide +kernel
theorem dX10_kinds_214 : decode cX10_kinds 214 = .ok (.istore 8, 2) := by decide +kernel
theorem dX10_kinds_216 : decode cX10_kinds 216 = .ok (.iinc 9 1, 3) := by decide +kernel
theorem dX10_kinds_219 : decode cX10_kinds 219 = .ok (.goto (-98), 3) := by decide +kernel
theorem dX10_kinds_222 : decode cX10_kinds 222 = .ok (.iload 5, 2) := by decide +kernel
theorem dX10_kinds_224 : decode cX10_kinds 224 = .ok (.ifCond .ne 8, 3) := by decide +kernel
theorem dX10_kinds_227 : decode cX10_kinds 227 = .ok (.iload 8, 2) := by decide +kernel
theorem dX10_kinds_229 : decode cX10_kinds 229 = .ok (.goto 9, 3) := by decide +kernel
theorem dX10_kinds_232 : decode cX10_kinds 232 = .ok (.aload_n 0, 1) := by decide +kernel
theorem dX10_kinds_233 : decode cX10_kinds 233 = .ok (.iload 8, 2) := by decide +kernel
theorem dX10_kinds_235 : decode cX10_kinds 235 = .ok (.invokevirtual 281, 3) := by decide +kernel
theorem dX10_kinds_238 : decode cX10_kinds 238 = .ok (.ireturn, 1) := by decide +kernel
theorem dX10_tried_0 : decode cX10_tried 0 = .ok (.bipush (-4), 2) := by decide +kernel
theorem dX10_tried_2 : decode cX10_tried 2 = .ok (.istore_n 2, 1) := by decide +kernel
theorem dX10_tried_3 : decode cX10_tried 3 = .ok (.bipush 99, 2) := by decide +kernel
theorem dX10_tried_5 : decode cX10_tried 5 = .ok (.istore_n 3, 1) := by decide +kernel
theorem dX10_tried_6 : decode cX10_tried 6 = .ok (.iconst 0, 1) := by decide +kernel
theorem dX10_tried_7 : decode cX10_tried 7 = .ok (.istore 4, 2) := by decide +kernel
theorem dX10_tried_9 : decode cX10_tried 9 = .ok (.iload 4, 2) := by decide +kernel
theorem dX10_tried_11 : decode cX10_tried 11 = .ok (.bipush 10, 2) := by decide +kernel
theorem dX10_tried_13 : decode cX10_tried 13 = .ok (.if_icmp .ge 147, 3) := by decide +kernel
theorem dX10_tried_16 : decode cX10_tried 16 = .ok (.iload_n 1, 1) := by decide +kernel
theorem dX10_tried_17 : decode cX10_tried 17 = .ok (.ifCond .eq 143, 3) := by decide +kernel
theorem dX10_tried_20 : decode cX10_tried 20 = .ok (.iconst 0, 1) := by decide +kernel
theorem dX10_tried_21 : decode cX10_tried 21 = .ok (.istore 5, 2) := by decide +kernel
theorem dX10_tried_23 : decode cX10_tried 23 = .ok (.iconst 1, 1) := by decide +kernel
theorem dX10_tried_24 : decode cX10_tried 24 = .ok (.istore 6, 2) := by decide +kernel
theorem dX10_tried_26 : decode cX10_tried 26 = .ok (.iload 6, 2) := by decide +kernel
theorem dX10_tried_28 : decode cX10_tried 28 = .ok (.bipush 6, 2) := by decide +kernel
theorem dX10_tried_30 : decode cX10_tried 30 = .ok (.if_icmp .ge 98, 3) := by decide +kernel
theorem dX10_tried_33 : decode cX10_tried 33 = .ok (.iconst 0, 1) := by decide +kernel
theorem dX10_tried_34 : decode cX10_tried 34 = .ok (.istore 7, 2) := by decide +kernel
theorem dX10_tried_36 : decode cX10_tried 36 = .ok (.iconst 1, 1) := by decide +kernel
theorem dX10_tried_37 : decode cX10_tried 37 = .ok (.istore 8, 2) := by decide +kernel
theorem dX10_tried_39 : decode cX10_tried 39 = .ok (.iload 8, 2) := by decide +kernel
theorem dX10_tried_41 : decode cX10_tried 41 = .ok (.bipush 6, 2) := by decide +kernel
theorem dX10_tried_43 : decode cX10_tried 43 = .ok (.if_icmp .ge 63, 3) := by decide +kernel
theorem dX10_tried_46 : decode cX10_tried 46 = .ok (.iload_n 1, 1) := by decide +kernel
theorem dX10_tried_47 : decode cX10_tried 47 = .ok (.iload 6, 2) := by decide +kernel
theorem dX10_tried_49 : decode cX10_tried 49 = .ok (.ishr, 1) := by decide +kernel
theorem dX10_tried_50 : decode cX10_tried 50 = .ok (.iload_n 1, 1) := by decide +kernel
theorem dX10_tried_51 : decode cX10_tried 51 = .ok (.iload 8, 2) := by decide +kernel
theorem dX10_tried_53 : decode cX10_tried 53 = .ok (.ishr, 1) := by decide +kernel
theorem dX10_tried_54 : decode cX10_tried 54 = .ok (.iand, 1) := by decide +kernel
theorem dX10_tried_55 : decode cX10_tried 55 = .ok (.iconst 1, 1) := by decide +kernel
theorem dX10_tried_56 : decode cX10_tried 56 = .ok (.iand, 1) := by decide +kernel
theorem dX10_tried_57 : decode cX10_tried 57 = .ok (.iconst 1, 1) := by decide +kernel
theorem dX10_tried_58 : decode cX10_tried 58 = .ok (.if_icmp .ne 7, 3) := by decide +kernel
theorem dX10_tried_61 : decode cX10_tried 61 = .ok (.iconst 1, 1) := by decide +kernel
theorem dX10_tried_62 : decode cX10_tried 62 = .ok (.goto 4, 3) := by decide +kernel
theorem dX10_tried_65 : decode cX10_tried 65 = .ok (.iconst 0, 1) := by decide +kernel
theorem dX10_tried_66 : decode cX10_tried 66 = .ok (.istore 9, 2) := by decide +kernel
theorem dX10_tried_68 : decode cX10_tried 68 = .ok (.iload 7, 2) := by decide +kernel
theorem dX10_tried_70 : decode cX10_tried 70 = .ok (.iload 9, 2) := by decide +kernel
theorem dX10_tried_72 : decode cX10_tried 72 = .ok (.ifCond .eq 24, 3) := by decide +kernel
theorem dX10_tried_75 : decode cX10_tried 75 = .ok (.iload 6, 2) := by decide +kernel
theorem dX10_tried_77 : decode cX10_tried 77 = .ok (.iload 4, 2) := by decide +kernel
theorem dX10_tried_79 : decode cX10_tried 79 = .ok (.invokestatic 133, 3) := by decide +kernel
theorem dX10_tried_82 : decode cX10_tried 82 = .ok (.iload 8, 2) := by decide +kernel
theorem dX10_tried_84 : decode cX10_tried 84 = .ok (.iload 4, 2) := by decide +kernel
theorem dX10_tried_86 : decode cX10_tried 86 = .ok (.invokestatic 133, 3) := by decide +kernel
theorem dX10_tried_89 : decode cX10_tried 89 = .ok (.if_icmp .ne 7, 3) := by decide +kernel
theorem dX10_tried_92 : decode cX10_tried 92 = .ok (.iconst 1, 1) := by decide +kernel
theorem dX10_tried_93 : decode cX10_tried 93 = .ok (.goto 4, 3) := by decide +kernel
theorem dX10_tried_96 : decode cX10_tried 96 = .ok (.iconst 0, 1) := by decide +kernel
theorem dX10_tried_97 : decode cX10_tried 97 = .ok (.iadd, 1) := by decide +kernel
theorem dX10_tried_98 : decode cX10_tried 98 = .ok (.istore 7, 2) := by decide +kernel
theorem dX10_tried_100 : decode cX10_tried 100 = .ok (.iinc 8 1, 3) := by decide +kernel
